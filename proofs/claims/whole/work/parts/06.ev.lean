/-! what every body may lean on beside its words: words that are no good words, texts, the two statics of Throwable -/
def ev_N : List Cond := [.methodLinkNest rX 32 y_B_init rX, .fieldLinkNest rX 127 rB "words" "[I" rX, .fieldLinkNest rX 81 rB "begin" "I" rX, .fieldLinkNest rX 84 rB "wordCount" "I" rX, .fieldLinkNest rX 87 rB "byteCount" "I" rX, .methodLinkNest rX 78 y_B_isKept rX, .methodLinkNest rX 116 y_B_empty rX, .methodLinkNest rX 120 y_B_hasByte rX, .methodLinkNest rX 133 y_B_beginsAt rX, .arrayOver (.object rB), .castable "java/lang/IndexOutOfBoundsException" "java/lang/IndexOutOfBoundsException", .castable "java/lang/IllegalArgumentException" "java/lang/IllegalArgumentException", .declares ⟨"java/lang/RuntimeException", "<init>", "(Ljava/lang/String;)V"⟩, .declares ⟨"java/lang/Exception", "<init>", "(Ljava/lang/String;)V"⟩, .declares ⟨"java/lang/Throwable", "<init>", "(Ljava/lang/String;)V"⟩]
def ev_S : List (String × Nat × String) := [(rX, 39, "no such byte"), (rX, 46, "not a byte"), (rX, 53, "no such place"), (rX, 61, "no such register"), (rX, 63, "not 1 to 100 steps"), (rX, 76, "no such row or what")]
def ev_k : Cond → Bool
  | .methodLinkNest .. => true
  | .fieldLinkNest .. => true
  | .arrayOver (.object _) => true
  | .castable .. => true
  | .declares _ => true
  | _ => false
theorem ev_kN : ∀ w ∈ ev_N, ev_k w = true := by decide +kernel
theorem ev_warm {w : Cond} (hk : ev_k w = true) {s U : State} (hW : s.WarmedH U.vm) (h : va_Nw w s) : va_Nw w U := by
  cases w with
  | methodLinkNest a i x h9 => exact va_Nw.warmM hW h
  | fieldLinkNest a i b n d h9 => exact va_Nw.warmF hW h
  | arrayOver t =>
    cases t with
    | object C => exact va_AO.moved hW.alike h
    | _ => cases hk
  | declares x => exact va_Nw.warmD hW h
  | castable a b =>
    obtain ⟨c3, c4, h3, h4, h5⟩ := Cond.castable_spec (show (Cond.castable a b).before #[] s = true from h)
    have e3 : U.vm.findClass a = some c3 := by rw [hW.alike.findClass]; exact h3
    have e4 : U.vm.findClass b = some c4 := by rw [hW.alike.findClass]; exact h4
    have e5 : U.vm.assignable c3 c4 = true := by rw [hW.alike.assignable]; exact h5
    simp [va_Nw, Cond.before, Cond.holds, Cond.value, e3, e4, e5]
  | _ => cases hk
def EV (A : Nat → Prop) (U : State) : Prop := (∀ w ∈ ev_N, va_Nw w U) ∧ (∀ q ∈ ev_S, ∃ a : Nat, vk_R q.1 q.2.1 q.2.2 a U) ∧ vx_Zq Bundle.tN "UNASSIGNED_STACK" Bundle.steD A U U.heap ∧ vx_Zq Bundle.tN "SUPPRESSED_SENTINEL" Bundle.listD A U U.heap ∧ va_Nc "java/lang/IllegalArgumentException" "java/lang/IndexOutOfBoundsException" U
theorem EV.go {A0 A : Nat → Prop} {s U : State} {H : Heap} {locs : List Loc} (h : EV A0 s) (hS : va_S A0 s.heap H locs) (hA : ∀ q, A q → A0 q) (hU : U.heap = H) (hW : s.WarmedH U.vm) : EV A U := by
  obtain ⟨h1, h2, h3, h4, h5⟩ := h
  refine ⟨fun w hw => ev_warm (ev_kN w hw) hW (h1 w hw), fun q hq => ?_, ?_, ?_, ?_⟩
  · obtain ⟨a, ha⟩ := h2 q hq
    exact ⟨a, vk_R.warm hW ha⟩
  · rw [hU]; exact ((vx_Zq.moved hW.alike h3).kept hS.2.1).narrow hA
  · rw [hU]; exact ((vx_Zq.moved hW.alike h4).kept hS.2.1).narrow hA
  · exact va_Nc.moved hW.alike h5
theorem EV.same {A : Nat → Prop} {u U : State} (hv : U.vm = u.vm) (hh : U.heap = u.heap) (h : EV A u) : EV A U := by
  obtain ⟨h1, h2, h3, h4, h5⟩ := h
  refine ⟨fun w hw => ev_warm (ev_kN w hw) (by rw [hv]; exact State.WarmedH.refl u) (h1 w hw), fun q hq => ?_, ?_, ?_, ?_⟩
  · obtain ⟨a, ha⟩ := h2 q hq
    exact ⟨a, vk_R.same hv ha⟩
  · rw [hh]; exact vx_Zq.moved (by rw [hv]; exact Vm.Alike.refl _) h3
  · rw [hh]; exact vx_Zq.moved (by rw [hv]; exact Vm.Alike.refl _) h4
  · exact va_Nc.moved (by rw [hv]; exact Vm.Alike.refl _) h5
