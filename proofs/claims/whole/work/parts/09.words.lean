/-- the class tables' numbers, and the classes of int[], boolean[], Message[] -/
abbrev zz_G : Type := va_G × ClassId × ClassId × ClassId
abbrev zz_cI (G : zz_G) : ClassId := G.2.1
abbrev zz_cZ (G : zz_G) : ClassId := G.2.2.1
abbrev zz_cM (G : zz_G) : ClassId := G.2.2.2
abbrev zz_tys (G : zz_G) : List (ClassId × FieldType) := [(zz_cI G, .int), (zz_cZ G, .boolean), (zz_cM G, .object RX0)]
def zz_over : List String := [RX0]
def zz_dec : List MethodName := [⟨RX3, "takesManaging", "(LMobileCall$Message;)Z"⟩, ⟨RX3, "takesCalling", "(LMobileCall$Message;)Z"⟩, ⟨RX3, "timeOut", "()V"⟩]
def zz_nest : List Cond := zz_dec.map Cond.declares
theorem zz_nest_tab : ∀ w ∈ zz_nest, w.onTables = true := fun w hw => by
  obtain ⟨x, -, rfl⟩ := List.mem_map.mp hw
  rfl
theorem zz_nest_warm {s U : State} : ∀ w ∈ zz_nest, s.WarmedH U.vm → va_Nw w s → va_Nw w U := fun w hw hW h => by
  obtain ⟨x, -, rfl⟩ := List.mem_map.mp hw
  exact va_Nw.warmD hW h
/-- a private method of the abstract class, on receivers of the two classes below it: said at the law's start, from 'privateMethod' -/
def zz_sp : List Cond := [.selects RX1 ⟨RX3, "startReleasing", "()V"⟩ ⟨RX3, "startReleasing", "()V"⟩, .selects RX2 ⟨RX3, "startReleasing", "()V"⟩ ⟨RX3, "startReleasing", "()V"⟩]
