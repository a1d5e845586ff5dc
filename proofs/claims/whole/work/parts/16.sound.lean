/-! ===== every instruction: where it goes ===== -/
theorem il_f_push {sc : List Int} {nx a b : Nat} {v : AV} {l0 : List (Int × Nat)} {L : LV} {st : List AV} {hp : HP} {B : BU} {r : SR} (h : f_push sc nx a b v l0 L st hp B = some r) : ∃ c, r = .inl c := by
  unfold f_push at h
  (repeat' split at h) <;> first | (cases h; exact ⟨_, rfl⟩) | (cases h)
theorem il_f_iload {sc : List Int} {nx a b : Nat} {v : AV} {l0 : List (Int × Nat)} {L : LV} {st : List AV} {hp : HP} {B : BU} {r : SR} (h : f_iload sc nx a b v l0 L st hp B = some r) : ∃ c, r = .inl c := by
  unfold f_iload at h
  (repeat' split at h) <;> first | (cases h; exact ⟨_, rfl⟩) | (cases h)
theorem il_f_lload {sc : List Int} {nx a b : Nat} {v : AV} {l0 : List (Int × Nat)} {L : LV} {st : List AV} {hp : HP} {B : BU} {r : SR} (h : f_lload sc nx a b v l0 L st hp B = some r) : ∃ c, r = .inl c := by
  unfold f_lload at h
  (repeat' split at h) <;> first | (cases h; exact ⟨_, rfl⟩) | (cases h)
theorem il_f_aload {sc : List Int} {nx a b : Nat} {v : AV} {l0 : List (Int × Nat)} {L : LV} {st : List AV} {hp : HP} {B : BU} {r : SR} (h : f_aload sc nx a b v l0 L st hp B = some r) : ∃ c, r = .inl c := by
  unfold f_aload at h
  (repeat' split at h) <;> first | (cases h; exact ⟨_, rfl⟩) | (cases h)
theorem il_f_istore {sc : List Int} {nx a b : Nat} {v : AV} {l0 : List (Int × Nat)} {L : LV} {st : List AV} {hp : HP} {B : BU} {r : SR} (h : f_istore sc nx a b v l0 L st hp B = some r) : ∃ c, r = .inl c := by
  unfold f_istore at h
  (repeat' split at h) <;> first | (cases h; exact ⟨_, rfl⟩) | (cases h)
theorem il_f_lstore {sc : List Int} {nx a b : Nat} {v : AV} {l0 : List (Int × Nat)} {L : LV} {st : List AV} {hp : HP} {B : BU} {r : SR} (h : f_lstore sc nx a b v l0 L st hp B = some r) : ∃ c, r = .inl c := by
  unfold f_lstore at h
  (repeat' split at h) <;> first | (cases h; exact ⟨_, rfl⟩) | (cases h)
theorem il_f_astore {sc : List Int} {nx a b : Nat} {v : AV} {l0 : List (Int × Nat)} {L : LV} {st : List AV} {hp : HP} {B : BU} {r : SR} (h : f_astore sc nx a b v l0 L st hp B = some r) : ∃ c, r = .inl c := by
  unfold f_astore at h
  (repeat' split at h) <;> first | (cases h; exact ⟨_, rfl⟩) | (cases h)
theorem il_f_iinc {sc : List Int} {nx a b : Nat} {v : AV} {l0 : List (Int × Nat)} {L : LV} {st : List AV} {hp : HP} {B : BU} {r : SR} (h : f_iinc sc nx a b v l0 L st hp B = some r) : ∃ c, r = .inl c := by
  unfold f_iinc at h
  (repeat' split at h) <;> first | (cases h; exact ⟨_, rfl⟩) | (cases h)
theorem il_f_ii {g : Int → Int → Int} {sc : List Int} {nx a b : Nat} {v : AV} {l0 : List (Int × Nat)} {L : LV} {st : List AV} {hp : HP} {B : BU} {r : SR} (h : f_ii g sc nx a b v l0 L st hp B = some r) : ∃ c, r = .inl c := by
  unfold f_ii at h
  (repeat' split at h) <;> first | (cases h; exact ⟨_, rfl⟩) | (cases h)
theorem il_f_idiv {sc : List Int} {nx a b : Nat} {v : AV} {l0 : List (Int × Nat)} {L : LV} {st : List AV} {hp : HP} {B : BU} {r : SR} (h : f_idiv sc nx a b v l0 L st hp B = some r) : ∃ c, r = .inl c := by
  unfold f_idiv at h
  (repeat' split at h) <;> first | (cases h; exact ⟨_, rfl⟩) | (cases h)
theorem il_f_irem {sc : List Int} {nx a b : Nat} {v : AV} {l0 : List (Int × Nat)} {L : LV} {st : List AV} {hp : HP} {B : BU} {r : SR} (h : f_irem sc nx a b v l0 L st hp B = some r) : ∃ c, r = .inl c := by
  unfold f_irem at h
  (repeat' split at h) <;> first | (cases h; exact ⟨_, rfl⟩) | (cases h)
theorem il_f_i {g : Int → Int} {sc : List Int} {nx a b : Nat} {v : AV} {l0 : List (Int × Nat)} {L : LV} {st : List AV} {hp : HP} {B : BU} {r : SR} (h : f_i g sc nx a b v l0 L st hp B = some r) : ∃ c, r = .inl c := by
  unfold f_i at h
  (repeat' split at h) <;> first | (cases h; exact ⟨_, rfl⟩) | (cases h)
theorem il_f_ll {g : BitVec 64 → BitVec 64 → BitVec 64} {sc : List Int} {nx a b : Nat} {v : AV} {l0 : List (Int × Nat)} {L : LV} {st : List AV} {hp : HP} {B : BU} {r : SR} (h : f_ll g sc nx a b v l0 L st hp B = some r) : ∃ c, r = .inl c := by
  unfold f_ll at h
  (repeat' split at h) <;> first | (cases h; exact ⟨_, rfl⟩) | (cases h)
theorem il_f_li {g : BitVec 64 → Nat → BitVec 64} {sc : List Int} {nx a b : Nat} {v : AV} {l0 : List (Int × Nat)} {L : LV} {st : List AV} {hp : HP} {B : BU} {r : SR} (h : f_li g sc nx a b v l0 L st hp B = some r) : ∃ c, r = .inl c := by
  unfold f_li at h
  (repeat' split at h) <;> first | (cases h; exact ⟨_, rfl⟩) | (cases h)
theorem il_f_lcmp {sc : List Int} {nx a b : Nat} {v : AV} {l0 : List (Int × Nat)} {L : LV} {st : List AV} {hp : HP} {B : BU} {r : SR} (h : f_lcmp sc nx a b v l0 L st hp B = some r) : ∃ c, r = .inl c := by
  unfold f_lcmp at h
  (repeat' split at h) <;> first | (cases h; exact ⟨_, rfl⟩) | (cases h)
theorem il_f_i2l {sc : List Int} {nx a b : Nat} {v : AV} {l0 : List (Int × Nat)} {L : LV} {st : List AV} {hp : HP} {B : BU} {r : SR} (h : f_i2l sc nx a b v l0 L st hp B = some r) : ∃ c, r = .inl c := by
  unfold f_i2l at h
  (repeat' split at h) <;> first | (cases h; exact ⟨_, rfl⟩) | (cases h)
theorem il_f_l2i {sc : List Int} {nx a b : Nat} {v : AV} {l0 : List (Int × Nat)} {L : LV} {st : List AV} {hp : HP} {B : BU} {r : SR} (h : f_l2i sc nx a b v l0 L st hp B = some r) : ∃ c, r = .inl c := by
  unfold f_l2i at h
  (repeat' split at h) <;> first | (cases h; exact ⟨_, rfl⟩) | (cases h)
theorem il_f_dup {sc : List Int} {nx a b : Nat} {v : AV} {l0 : List (Int × Nat)} {L : LV} {st : List AV} {hp : HP} {B : BU} {r : SR} (h : f_dup sc nx a b v l0 L st hp B = some r) : ∃ c, r = .inl c := by
  unfold f_dup at h
  (repeat' split at h) <;> first | (cases h; exact ⟨_, rfl⟩) | (cases h)
theorem il_f_dup2 {sc : List Int} {nx a b : Nat} {v : AV} {l0 : List (Int × Nat)} {L : LV} {st : List AV} {hp : HP} {B : BU} {r : SR} (h : f_dup2 sc nx a b v l0 L st hp B = some r) : ∃ c, r = .inl c := by
  unfold f_dup2 at h
  (repeat' split at h) <;> first | (cases h; exact ⟨_, rfl⟩) | (cases h)
theorem il_f_if {sc : List Int} {nx a b : Nat} {v : AV} {l0 : List (Int × Nat)} {L : LV} {st : List AV} {hp : HP} {B : BU} {r : SR} (h : f_if sc nx a b v l0 L st hp B = some r) : ∃ c, r = .inl c := by
  unfold f_if at h
  (repeat' split at h) <;> first | (cases h; exact ⟨_, rfl⟩) | (cases h)
theorem il_f_icmp {sc : List Int} {nx a b : Nat} {v : AV} {l0 : List (Int × Nat)} {L : LV} {st : List AV} {hp : HP} {B : BU} {r : SR} (h : f_icmp sc nx a b v l0 L st hp B = some r) : ∃ c, r = .inl c := by
  unfold f_icmp at h
  (repeat' split at h) <;> first | (cases h; exact ⟨_, rfl⟩) | (cases h)
theorem il_f_goto {sc : List Int} {nx a b : Nat} {v : AV} {l0 : List (Int × Nat)} {L : LV} {st : List AV} {hp : HP} {B : BU} {r : SR} (h : f_goto sc nx a b v l0 L st hp B = some r) : ∃ c, r = .inl c := by
  unfold f_goto at h
  (repeat' split at h) <;> first | (cases h; exact ⟨_, rfl⟩) | (cases h)
theorem il_f_nonnull {sc : List Int} {nx a b : Nat} {v : AV} {l0 : List (Int × Nat)} {L : LV} {st : List AV} {hp : HP} {B : BU} {r : SR} (h : f_nonnull sc nx a b v l0 L st hp B = some r) : ∃ c, r = .inl c := by
  unfold f_nonnull at h
  (repeat' split at h) <;> first | (cases h; exact ⟨_, rfl⟩) | (cases h)
theorem il_f_switch {sc : List Int} {nx a b : Nat} {v : AV} {l0 : List (Int × Nat)} {L : LV} {st : List AV} {hp : HP} {B : BU} {r : SR} (h : f_switch sc nx a b v l0 L st hp B = some r) : ∃ c, r = .inl c := by
  unfold f_switch at h
  (repeat' split at h) <;> first | (cases h; exact ⟨_, rfl⟩) | (cases h)
theorem il_f_getf {sc : List Int} {nx a b : Nat} {v : AV} {l0 : List (Int × Nat)} {L : LV} {st : List AV} {hp : HP} {B : BU} {r : SR} (h : f_getf sc nx a b v l0 L st hp B = some r) : ∃ c, r = .inl c := by
  unfold f_getf at h
  (repeat' split at h) <;> first | (cases h; exact ⟨_, rfl⟩) | (cases h)
theorem il_f_putf {sc : List Int} {nx a b : Nat} {v : AV} {l0 : List (Int × Nat)} {L : LV} {st : List AV} {hp : HP} {B : BU} {r : SR} (h : f_putf sc nx a b v l0 L st hp B = some r) : ∃ c, r = .inl c := by
  unfold f_putf at h
  (repeat' split at h) <;> first | (cases h; exact ⟨_, rfl⟩) | (cases h)
theorem il_f_gets {sc : List Int} {nx a b : Nat} {v : AV} {l0 : List (Int × Nat)} {L : LV} {st : List AV} {hp : HP} {B : BU} {r : SR} (h : f_gets sc nx a b v l0 L st hp B = some r) : ∃ c, r = .inl c := by
  unfold f_gets at h
  (repeat' split at h) <;> first | (cases h; exact ⟨_, rfl⟩) | (cases h)
theorem il_f_ldcs {sc : List Int} {nx a b : Nat} {v : AV} {l0 : List (Int × Nat)} {L : LV} {st : List AV} {hp : HP} {B : BU} {r : SR} (h : f_ldcs sc nx a b v l0 L st hp B = some r) : ∃ c, r = .inl c := by
  unfold f_ldcs at h
  (repeat' split at h) <;> first | (cases h; exact ⟨_, rfl⟩) | (cases h)
theorem il_f_iald {sc : List Int} {nx a b : Nat} {v : AV} {l0 : List (Int × Nat)} {L : LV} {st : List AV} {hp : HP} {B : BU} {r : SR} (h : f_iald sc nx a b v l0 L st hp B = some r) : ∃ c, r = .inl c := by
  unfold f_iald at h
  (repeat' split at h) <;> first | (cases h; exact ⟨_, rfl⟩) | (cases h)
theorem il_f_bald {sc : List Int} {nx a b : Nat} {v : AV} {l0 : List (Int × Nat)} {L : LV} {st : List AV} {hp : HP} {B : BU} {r : SR} (h : f_bald sc nx a b v l0 L st hp B = some r) : ∃ c, r = .inl c := by
  unfold f_bald at h
  (repeat' split at h) <;> first | (cases h; exact ⟨_, rfl⟩) | (cases h)
theorem il_f_lald {sc : List Int} {nx a b : Nat} {v : AV} {l0 : List (Int × Nat)} {L : LV} {st : List AV} {hp : HP} {B : BU} {r : SR} (h : f_lald sc nx a b v l0 L st hp B = some r) : ∃ c, r = .inl c := by
  unfold f_lald at h
  (repeat' split at h) <;> first | (cases h; exact ⟨_, rfl⟩) | (cases h)
theorem il_f_aald {sc : List Int} {nx a b : Nat} {v : AV} {l0 : List (Int × Nat)} {L : LV} {st : List AV} {hp : HP} {B : BU} {r : SR} (h : f_aald sc nx a b v l0 L st hp B = some r) : ∃ c, r = .inl c := by
  unfold f_aald at h
  (repeat' split at h) <;> first | (cases h; exact ⟨_, rfl⟩) | (cases h)
theorem il_f_iast {sc : List Int} {nx a b : Nat} {v : AV} {l0 : List (Int × Nat)} {L : LV} {st : List AV} {hp : HP} {B : BU} {r : SR} (h : f_iast sc nx a b v l0 L st hp B = some r) : ∃ c, r = .inl c := by
  unfold f_iast at h
  (repeat' split at h) <;> first | (cases h; exact ⟨_, rfl⟩) | (cases h)
theorem il_f_bast {sc : List Int} {nx a b : Nat} {v : AV} {l0 : List (Int × Nat)} {L : LV} {st : List AV} {hp : HP} {B : BU} {r : SR} (h : f_bast sc nx a b v l0 L st hp B = some r) : ∃ c, r = .inl c := by
  unfold f_bast at h
  (repeat' split at h) <;> first | (cases h; exact ⟨_, rfl⟩) | (cases h)
theorem il_f_last {sc : List Int} {nx a b : Nat} {v : AV} {l0 : List (Int × Nat)} {L : LV} {st : List AV} {hp : HP} {B : BU} {r : SR} (h : f_last sc nx a b v l0 L st hp B = some r) : ∃ c, r = .inl c := by
  unfold f_last at h
  (repeat' split at h) <;> first | (cases h; exact ⟨_, rfl⟩) | (cases h)
theorem il_f_aast {sc : List Int} {nx a b : Nat} {v : AV} {l0 : List (Int × Nat)} {L : LV} {st : List AV} {hp : HP} {B : BU} {r : SR} (h : f_aast sc nx a b v l0 L st hp B = some r) : ∃ c, r = .inl c := by
  unfold f_aast at h
  (repeat' split at h) <;> first | (cases h; exact ⟨_, rfl⟩) | (cases h)
theorem il_f_newa {sc : List Int} {nx a b : Nat} {v : AV} {l0 : List (Int × Nat)} {L : LV} {st : List AV} {hp : HP} {B : BU} {r : SR} (h : f_newa sc nx a b v l0 L st hp B = some r) : ∃ c, r = .inl c := by
  unfold f_newa at h
  (repeat' split at h) <;> first | (cases h; exact ⟨_, rfl⟩) | (cases h)
theorem il_f_newq {sc : List Int} {nx a b : Nat} {v : AV} {l0 : List (Int × Nat)} {L : LV} {st : List AV} {hp : HP} {B : BU} {r : SR} (h : f_newq sc nx a b v l0 L st hp B = some r) : ∃ c, r = .inl c := by
  unfold f_newq at h
  (repeat' split at h) <;> first | (cases h; exact ⟨_, rfl⟩) | (cases h)
theorem il_f_newg {sc : List Int} {nx a b : Nat} {v : AV} {l0 : List (Int × Nat)} {L : LV} {st : List AV} {hp : HP} {B : BU} {r : SR} (h : f_newg sc nx a b v l0 L st hp B = some r) : ∃ c, r = .inl c := by
  unfold f_newg at h
  (repeat' split at h) <;> first | (cases h; exact ⟨_, rfl⟩) | (cases h)
theorem il_f_new {sc : List Int} {nx a b : Nat} {v : AV} {l0 : List (Int × Nat)} {L : LV} {st : List AV} {hp : HP} {B : BU} {r : SR} (h : f_new sc nx a b v l0 L st hp B = some r) : ∃ c, r = .inl c := by
  unfold f_new at h
  (repeat' split at h) <;> first | (cases h; exact ⟨_, rfl⟩) | (cases h)
theorem il_f_objinit {sc : List Int} {nx a b : Nat} {v : AV} {l0 : List (Int × Nat)} {L : LV} {st : List AV} {hp : HP} {B : BU} {r : SR} (h : f_objinit sc nx a b v l0 L st hp B = some r) : ∃ c, r = .inl c := by
  unfold f_objinit at h
  (repeat' split at h) <;> first | (cases h; exact ⟨_, rfl⟩) | (cases h)
theorem il_f_copyi {sc : List Int} {nx a b : Nat} {v : AV} {l0 : List (Int × Nat)} {L : LV} {st : List AV} {hp : HP} {B : BU} {r : SR} (h : f_copyi sc nx a b v l0 L st hp B = some r) : ∃ c, r = .inl c := by
  unfold f_copyi at h
  (repeat' split at h) <;> first | (cases h; exact ⟨_, rfl⟩) | (cases h)
theorem il_f_copyl {sc : List Int} {nx a b : Nat} {v : AV} {l0 : List (Int × Nat)} {L : LV} {st : List AV} {hp : HP} {B : BU} {r : SR} (h : f_copyl sc nx a b v l0 L st hp B = some r) : ∃ c, r = .inl c := by
  unfold f_copyl at h
  (repeat' split at h) <;> first | (cases h; exact ⟨_, rfl⟩) | (cases h)
theorem il_f_tval {sc : List Int} {nx a b : Nat} {v : AV} {l0 : List (Int × Nat)} {L : LV} {st : List AV} {hp : HP} {B : BU} {r : SR} (h : f_tval sc nx a b v l0 L st hp B = some r) : ∃ c, r = .inl c := by
  unfold f_tval at h
  (repeat' split at h) <;> first | (cases h; exact ⟨_, rfl⟩) | (cases h)
theorem il_f_tcod {sc : List Int} {nx a b : Nat} {v : AV} {l0 : List (Int × Nat)} {L : LV} {st : List AV} {hp : HP} {B : BU} {r : SR} (h : f_tcod sc nx a b v l0 L st hp B = some r) : ∃ c, r = .inl c := by
  unfold f_tcod at h
  (repeat' split at h) <;> first | (cases h; exact ⟨_, rfl⟩) | (cases h)
theorem il_f_tbald {sc : List Int} {nx a b : Nat} {v : AV} {l0 : List (Int × Nat)} {L : LV} {st : List AV} {hp : HP} {B : BU} {r : SR} (h : f_tbald sc nx a b v l0 L st hp B = some r) : ∃ c, r = .inl c := by
  unfold f_tbald at h
  (repeat' split at h) <;> first | (cases h; exact ⟨_, rfl⟩) | (cases h)
theorem il_f_gcs {sc : List Int} {nx a b : Nat} {v : AV} {l0 : List (Int × Nat)} {L : LV} {st : List AV} {hp : HP} {B : BU} {r : SR} (h : f_gcs sc nx a b v l0 L st hp B = some r) : ∃ c, r = .inl c := by
  unfold f_gcs at h
  (repeat' split at h) <;> first | (cases h; exact ⟨_, rfl⟩) | (cases h)
theorem il_f_slen {sc : List Int} {nx a b : Nat} {v : AV} {l0 : List (Int × Nat)} {L : LV} {st : List AV} {hp : HP} {B : BU} {r : SR} (h : f_slen sc nx a b v l0 L st hp B = some r) : ∃ c, r = .inl c := by
  unfold f_slen at h
  (repeat' split at h) <;> first | (cases h; exact ⟨_, rfl⟩) | (cases h)
theorem il_f_tlen {sc : List Int} {nx a b : Nat} {v : AV} {l0 : List (Int × Nat)} {L : LV} {st : List AV} {hp : HP} {B : BU} {r : SR} (h : f_tlen sc nx a b v l0 L st hp B = some r) : ∃ c, r = .inl c := by
  unfold f_tlen at h
  (repeat' split at h) <;> first | (cases h; exact ⟨_, rfl⟩) | (cases h)
theorem il_f_alen {sc : List Int} {nx a b : Nat} {v : AV} {l0 : List (Int × Nat)} {L : LV} {st : List AV} {hp : HP} {B : BU} {r : SR} (h : f_alen sc nx a b v l0 L st hp B = some r) : ∃ c, r = .inl c := by
  unfold f_alen at h
  (repeat' split at h) <;> first | (cases h; exact ⟨_, rfl⟩) | (cases h)
theorem il_f_pop {sc : List Int} {nx a b : Nat} {v : AV} {l0 : List (Int × Nat)} {L : LV} {st : List AV} {hp : HP} {B : BU} {r : SR} (h : f_pop sc nx a b v l0 L st hp B = some r) : ∃ c, r = .inl c := by
  unfold f_pop at h
  (repeat' split at h) <;> first | (cases h; exact ⟨_, rfl⟩) | (cases h)
theorem il_f_mmin {sc : List Int} {nx a b : Nat} {v : AV} {l0 : List (Int × Nat)} {L : LV} {st : List AV} {hp : HP} {B : BU} {r : SR} (h : f_mmin sc nx a b v l0 L st hp B = some r) : ∃ c, r = .inl c := by
  unfold f_mmin at h
  (repeat' split at h) <;> first | (cases h; exact ⟨_, rfl⟩) | (cases h)
theorem il_f_mmax {sc : List Int} {nx a b : Nat} {v : AV} {l0 : List (Int × Nat)} {L : LV} {st : List AV} {hp : HP} {B : BU} {r : SR} (h : f_mmax sc nx a b v l0 L st hp B = some r) : ∃ c, r = .inl c := by
  unfold f_mmax at h
  (repeat' split at h) <;> first | (cases h; exact ⟨_, rfl⟩) | (cases h)
theorem il_f_mabs {sc : List Int} {nx a b : Nat} {v : AV} {l0 : List (Int × Nat)} {L : LV} {st : List AV} {hp : HP} {B : BU} {r : SR} (h : f_mabs sc nx a b v l0 L st hp B = some r) : ∃ c, r = .inl c := by
  unfold f_mabs at h
  (repeat' split at h) <;> first | (cases h; exact ⟨_, rfl⟩) | (cases h)
theorem ca_call {sc : List Int} {nx a b : Nat} {v : AV} {l0 : List (Int × Nat)} {L : LV} {st : List AV} {hp : HP} {B : BU} {r : SR} (h : f_call sc nx a b v l0 L st hp B = some r) : ∃ c, r = .inr (.inl c) := by
  unfold f_call at h
  (repeat' split at h) <;> first | (cases h; exact ⟨_, rfl⟩) | (cases h)
theorem ca_callv {sc : List Int} {nx a b : Nat} {v : AV} {l0 : List (Int × Nat)} {L : LV} {st : List AV} {hp : HP} {B : BU} {r : SR} (h : f_callv sc nx a b v l0 L st hp B = some r) : ∃ c, r = .inr (.inl c) := by
  unfold f_callv at h
  (repeat' split at h) <;> first | exact ca_call h | (cases h)
theorem ca_callt {sc : List Int} {nx a b : Nat} {v : AV} {l0 : List (Int × Nat)} {L : LV} {st : List AV} {hp : HP} {B : BU} {r : SR} (h : f_callt sc nx a b v l0 L st hp B = some r) : ∃ c, r = .inr (.inl c) := by
  unfold f_callt at h
  (repeat' split at h) <;> first | exact ca_call h | (cases h)
theorem ca_calli {sc : List Int} {nx a b : Nat} {v : AV} {l0 : List (Int × Nat)} {L : LV} {st : List AV} {hp : HP} {B : BU} {r : SR} (h : f_calli sc nx a b v l0 L st hp B = some r) : ∃ c, r = .inr (.inl c) := by
  unfold f_calli at h
  (repeat' split at h) <;> first | exact ca_call h | (cases h)
def RetAt (M pc : Nat) (v : Option AV) : Prop := (v = none ∧ decode (mC M) pc = .ok (.return_, 1) ∧ mT M = none) ∨ (∃ x, v = some (mI x) ∧ decode (mC M) pc = .ok (.ireturn, 1) ∧ (mT M = some .int ∨ (mT M = some .boolean ∧ (x = 0 ∨ x = 1)) ∨ ((mT M = some .char ∨ mT M = some .byte) ∧ 0 ≤ x ∧ x < 128))) ∨ (∃ x, v = some (mL x) ∧ decode (mC M) pc = .ok (.lreturn, 1) ∧ mT M = some .long)
theorem re_ret {M k a b : Nat} {v0 : AV} {sc : List Int} {nx : Nat} {l0 : List (Int × Nat)} {i : Instr} {len : Nat} {L : LV} {st : List AV} {hp : HP} {B : BU} {r : SR} (hdec : decode (mC M) (pcO M k) = .ok (i, len)) (hk : ck_ret M k a b v0 l0 i len = true) (h : f_ret sc nx a b v0 l0 L st hp B = some r) : ∃ v, r = .inr (.inr v) ∧ RetAt M (pcO M k) v ∧ st = v.toList := by
  unfold ck_ret at hk
  rw [Bool.and_eq_true] at hk
  obtain ⟨hl, hk⟩ := hk
  have hl := of_decide_eq_true hl
  subst hl
  unfold f_ret at h
  split at h
  · simp only [Bool.and_eq_true, decide_eq_true_eq] at hk
    obtain ⟨rfl, ht⟩ := hk
    cases h
    exact ⟨_, rfl, Or.inl ⟨rfl, hdec, ht⟩, rfl⟩
  · simp only [Bool.and_eq_true, decide_eq_true_eq] at hk
    obtain ⟨rfl, ht⟩ := hk
    cases h
    exact ⟨_, rfl, Or.inr (Or.inl ⟨_, rfl, hdec, Or.inl ht⟩), rfl⟩
  · simp only [Bool.and_eq_true, decide_eq_true_eq] at hk
    obtain ⟨rfl, ht⟩ := hk
    split at h
    · next hx =>
      cases h
      exact ⟨_, rfl, Or.inr (Or.inl ⟨_, rfl, hdec, Or.inr (Or.inl ⟨ht, hx⟩)⟩), rfl⟩
    · cases h
  · simp only [Bool.and_eq_true, decide_eq_true_eq] at hk
    obtain ⟨rfl, ht⟩ := hk
    cases h
    exact ⟨_, rfl, Or.inr (Or.inr ⟨_, rfl, hdec, ht⟩), rfl⟩
  · simp only [Bool.and_eq_true, decide_eq_true_eq] at hk
    obtain ⟨rfl, ht⟩ := hk
    split at h
    · next hx =>
      cases h
      exact ⟨_, rfl, Or.inr (Or.inl ⟨_, rfl, hdec, Or.inr (Or.inr ⟨ht, hx⟩)⟩), rfl⟩
    · cases h
  · cases h
def RetOK (b0 : Nat) (sv : Nat → Value) (cy : Nat → ClassId) (D : va_G) (M : Nat) (p : Program) (l : Launch) (e : Env) (R : Room) (s : State) (m : MethodId) (args : Array Value) (below : List Frame) (meth : Method) (c : Code) (Q : State → Prop) (R0 : PO) : Prop := ∀ (v : Option AV) (h : HP) (pc : Nat), R0 v h → RetAt M pc v → ∀ (ls : Array Slot) (H : Heap) (locs : List Loc) (cells slots : Nat), RH b0 sv cy D h H → va_S (aNew b0) s.heap H locs → cells ≤ R.cells → slots ≤ R.slots → W p l e R s m args below meth c H locs cells slots Q (F0 m pc ls ((v.map (cv b0 sv)).toList))
def OpOK (b0 : Nat) (sv : Nat → Value) (cy : Nat → ClassId) (D : va_G) (sc : List Int) (M : Nat) (p : Program) (l : Launch) (e : Env) (R : Room) (s : State) (m : MethodId) (args : Array Value) (below : List Frame) (meth : Method) (c : Code) (Q : State → Prop) (dd : Nat) (cd0 : CT) (Kc : Nat → List AV → CF → PO) (ck : CKt) (f : FN) : Prop := ∀ (k a b : Nat) (v : AV) (l0 : List (Int × Nat)) (i : Instr) (len : Nat) (L : LV) (st : List AV) (hp : HP) (B : BU) (r : SR), (1 ≤ R.frames ∧ 60 ≤ R.locals) → CX b0 sv cy D sc M p s m args meth c → ((∀ M as hp R0, ¬ cd0 M as hp R0) ∨ (CallOK b0 sv cy D l dd cd0 ∧ dd + 2 ≤ R.frames ∧ 60 * (dd + 2) ≤ R.locals)) → decode (mC M) (pcO M k) = .ok (i, len) →
    (∀ c', r = .inl c' → GP b0 sv cy D M p l e R s m args below meth c Q (pcO M c'.1) c'.2.1 c'.2.2.1 c'.2.2.2.1 c'.2.2.2.2) →
    (∀ y as c', r = .inr (.inl (y, as, c')) → cd0 y as hp (fun v h => Kc y as c' v h) ∧ ∀ (v : Option AV) (h : HP), Kc y as c' v h → GP b0 sv cy D M p l e R s m args below meth c Q (pcO M c'.1) c'.2.1 (v.toList ++ c'.2.2.1) h c'.2.2.2.2) →
    (∀ v1, r = .inr (.inr v1) → RetAt M (pcO M k) v1 → st = v1.toList → GP b0 sv cy D M p l e R s m args below meth c Q (pcO M k) L st hp B) →
    ck M k a b v l0 i len = true → f sc (k + 1) a b v l0 L st hp B = some r → GP b0 sv cy D M p l e R s m args below meth c Q (pcO M k) L st hp B
section OKS
variable {b0 : Nat} {sv : Nat → Value} {cy : Nat → ClassId} {D : va_G} {sc : List Int} {M : Nat} {p : Program} {l : Launch} {e : Env} {R : Room} {s : State} {m : MethodId} {args : Array Value} {below : List Frame} {meth : Method} {c : Code} {Q : State → Prop} {dd : Nat} {cd0 : CT} {Kc : Nat → List AV → CF → PO}
theorem ok_nil : ∀ op : Nat, OpOK b0 sv cy D sc M p l e R s m args below meth c Q dd cd0 Kc (([] : List CKt).getD op ck_no) (([] : List FN).getD op f_none) := fun op k a b v l0 i len L st hp B r hR1 C hcall hdec Gn Gc Gr hk hs => by cases hs
theorem ok_cons {ck : CKt} {f : FN} {T1 : List CKt} {T2 : List FN} (h : OpOK b0 sv cy D sc M p l e R s m args below meth c Q dd cd0 Kc ck f) (ht : ∀ op : Nat, OpOK b0 sv cy D sc M p l e R s m args below meth c Q dd cd0 Kc (T1.getD op ck_no) (T2.getD op f_none)) : ∀ op : Nat, OpOK b0 sv cy D sc M p l e R s m args below meth c Q dd cd0 Kc ((ck :: T1).getD op ck_no) ((f :: T2).getD op f_none)
  | 0 => h
  | n + 1 => ht n
theorem ok_0 : OpOK b0 sv cy D sc M p l e R s m args below meth c Q dd cd0 Kc ck_push f_push := by
  intro k a b v l0 i len L st hp B r hR1 C hcall hdec Gn Gc Gr hk hs
  obtain ⟨c', rfl⟩ := il_f_push hs
  exact so_0 (k := k) (a := a) (b := b) (v := v) (l0 := l0) C hdec hk hs (Gn c' rfl)
theorem ok_1 : OpOK b0 sv cy D sc M p l e R s m args below meth c Q dd cd0 Kc ck_iload f_iload := by
  intro k a b v l0 i len L st hp B r hR1 C hcall hdec Gn Gc Gr hk hs
  obtain ⟨c', rfl⟩ := il_f_iload hs
  exact so_1 (k := k) (a := a) (b := b) (v := v) (l0 := l0) C hdec hk hs (Gn c' rfl)
theorem ok_2 : OpOK b0 sv cy D sc M p l e R s m args below meth c Q dd cd0 Kc ck_lload f_lload := by
  intro k a b v l0 i len L st hp B r hR1 C hcall hdec Gn Gc Gr hk hs
  obtain ⟨c', rfl⟩ := il_f_lload hs
  exact so_2 (k := k) (a := a) (b := b) (v := v) (l0 := l0) C hdec hk hs (Gn c' rfl)
theorem ok_3 : OpOK b0 sv cy D sc M p l e R s m args below meth c Q dd cd0 Kc ck_aload f_aload := by
  intro k a b v l0 i len L st hp B r hR1 C hcall hdec Gn Gc Gr hk hs
  obtain ⟨c', rfl⟩ := il_f_aload hs
  exact so_3 (k := k) (a := a) (b := b) (v := v) (l0 := l0) C hdec hk hs (Gn c' rfl)
theorem ok_4 : OpOK b0 sv cy D sc M p l e R s m args below meth c Q dd cd0 Kc ck_istore f_istore := by
  intro k a b v l0 i len L st hp B r hR1 C hcall hdec Gn Gc Gr hk hs
  obtain ⟨c', rfl⟩ := il_f_istore hs
  exact so_4 (k := k) (a := a) (b := b) (v := v) (l0 := l0) C hdec hk hs (Gn c' rfl)
theorem ok_5 : OpOK b0 sv cy D sc M p l e R s m args below meth c Q dd cd0 Kc ck_lstore f_lstore := by
  intro k a b v l0 i len L st hp B r hR1 C hcall hdec Gn Gc Gr hk hs
  obtain ⟨c', rfl⟩ := il_f_lstore hs
  exact so_5 (k := k) (a := a) (b := b) (v := v) (l0 := l0) C hdec hk hs (Gn c' rfl)
theorem ok_6 : OpOK b0 sv cy D sc M p l e R s m args below meth c Q dd cd0 Kc ck_astore f_astore := by
  intro k a b v l0 i len L st hp B r hR1 C hcall hdec Gn Gc Gr hk hs
  obtain ⟨c', rfl⟩ := il_f_astore hs
  exact so_6 (k := k) (a := a) (b := b) (v := v) (l0 := l0) C hdec hk hs (Gn c' rfl)
theorem ok_7 : OpOK b0 sv cy D sc M p l e R s m args below meth c Q dd cd0 Kc ck_iinc f_iinc := by
  intro k a b v l0 i len L st hp B r hR1 C hcall hdec Gn Gc Gr hk hs
  obtain ⟨c', rfl⟩ := il_f_iinc hs
  exact so_7 (k := k) (a := a) (b := b) (v := v) (l0 := l0) C hdec hk hs (Gn c' rfl)
theorem ok_8 : OpOK b0 sv cy D sc M p l e R s m args below meth c Q dd cd0 Kc (ck_s .iadd) (f_ii (fun x y => x + y)) := by
  intro k a b v l0 i len L st hp B r hR1 C hcall hdec Gn Gc Gr hk hs
  obtain ⟨c', rfl⟩ := il_f_ii hs
  exact so_8 (k := k) (a := a) (b := b) (v := v) (l0 := l0) C hdec hk hs (Gn c' rfl)
theorem ok_9 : OpOK b0 sv cy D sc M p l e R s m args below meth c Q dd cd0 Kc (ck_s .isub) (f_ii (fun x y => x - y)) := by
  intro k a b v l0 i len L st hp B r hR1 C hcall hdec Gn Gc Gr hk hs
  obtain ⟨c', rfl⟩ := il_f_ii hs
  exact so_9 (k := k) (a := a) (b := b) (v := v) (l0 := l0) C hdec hk hs (Gn c' rfl)
theorem ok_10 : OpOK b0 sv cy D sc M p l e R s m args below meth c Q dd cd0 Kc (ck_s .imul) (f_ii (fun x y => x * y)) := by
  intro k a b v l0 i len L st hp B r hR1 C hcall hdec Gn Gc Gr hk hs
  obtain ⟨c', rfl⟩ := il_f_ii hs
  exact so_10 (k := k) (a := a) (b := b) (v := v) (l0 := l0) C hdec hk hs (Gn c' rfl)
theorem ok_11 : OpOK b0 sv cy D sc M p l e R s m args below meth c Q dd cd0 Kc (ck_s .idiv) f_idiv := by
  intro k a b v l0 i len L st hp B r hR1 C hcall hdec Gn Gc Gr hk hs
  obtain ⟨c', rfl⟩ := il_f_idiv hs
  exact so_11 (k := k) (a := a) (b := b) (v := v) (l0 := l0) C hdec hk hs (Gn c' rfl)
theorem ok_12 : OpOK b0 sv cy D sc M p l e R s m args below meth c Q dd cd0 Kc (ck_s .irem) f_irem := by
  intro k a b v l0 i len L st hp B r hR1 C hcall hdec Gn Gc Gr hk hs
  obtain ⟨c', rfl⟩ := il_f_irem hs
  exact so_12 (k := k) (a := a) (b := b) (v := v) (l0 := l0) C hdec hk hs (Gn c' rfl)
theorem ok_13 : OpOK b0 sv cy D sc M p l e R s m args below meth c Q dd cd0 Kc (ck_s .iand) (f_ii iAnd) := by
  intro k a b v l0 i len L st hp B r hR1 C hcall hdec Gn Gc Gr hk hs
  obtain ⟨c', rfl⟩ := il_f_ii hs
  exact so_13 (k := k) (a := a) (b := b) (v := v) (l0 := l0) C hdec hk hs (Gn c' rfl)
theorem ok_14 : OpOK b0 sv cy D sc M p l e R s m args below meth c Q dd cd0 Kc (ck_s .ior) (f_ii iOr) := by
  intro k a b v l0 i len L st hp B r hR1 C hcall hdec Gn Gc Gr hk hs
  obtain ⟨c', rfl⟩ := il_f_ii hs
  exact so_14 (k := k) (a := a) (b := b) (v := v) (l0 := l0) C hdec hk hs (Gn c' rfl)
theorem ok_15 : OpOK b0 sv cy D sc M p l e R s m args below meth c Q dd cd0 Kc (ck_s .ixor) (f_ii iXor) := by
  intro k a b v l0 i len L st hp B r hR1 C hcall hdec Gn Gc Gr hk hs
  obtain ⟨c', rfl⟩ := il_f_ii hs
  exact so_15 (k := k) (a := a) (b := b) (v := v) (l0 := l0) C hdec hk hs (Gn c' rfl)
theorem ok_16 : OpOK b0 sv cy D sc M p l e R s m args below meth c Q dd cd0 Kc (ck_s .ishl) (f_ii iShl) := by
  intro k a b v l0 i len L st hp B r hR1 C hcall hdec Gn Gc Gr hk hs
  obtain ⟨c', rfl⟩ := il_f_ii hs
  exact so_16 (k := k) (a := a) (b := b) (v := v) (l0 := l0) C hdec hk hs (Gn c' rfl)
theorem ok_17 : OpOK b0 sv cy D sc M p l e R s m args below meth c Q dd cd0 Kc (ck_s .ishr) (f_ii iShr) := by
  intro k a b v l0 i len L st hp B r hR1 C hcall hdec Gn Gc Gr hk hs
  obtain ⟨c', rfl⟩ := il_f_ii hs
  exact so_17 (k := k) (a := a) (b := b) (v := v) (l0 := l0) C hdec hk hs (Gn c' rfl)
theorem ok_18 : OpOK b0 sv cy D sc M p l e R s m args below meth c Q dd cd0 Kc (ck_s .iushr) (f_ii iUshr) := by
  intro k a b v l0 i len L st hp B r hR1 C hcall hdec Gn Gc Gr hk hs
  obtain ⟨c', rfl⟩ := il_f_ii hs
  exact so_18 (k := k) (a := a) (b := b) (v := v) (l0 := l0) C hdec hk hs (Gn c' rfl)
theorem ok_19 : OpOK b0 sv cy D sc M p l e R s m args below meth c Q dd cd0 Kc (ck_s .ineg) (f_i (fun x => -x)) := by
  intro k a b v l0 i len L st hp B r hR1 C hcall hdec Gn Gc Gr hk hs
  obtain ⟨c', rfl⟩ := il_f_i hs
  exact so_19 (k := k) (a := a) (b := b) (v := v) (l0 := l0) C hdec hk hs (Gn c' rfl)
theorem ok_20 : OpOK b0 sv cy D sc M p l e R s m args below meth c Q dd cd0 Kc (ck_s .ladd) (f_ll (fun x y => x + y)) := by
  intro k a b v l0 i len L st hp B r hR1 C hcall hdec Gn Gc Gr hk hs
  obtain ⟨c', rfl⟩ := il_f_ll hs
  exact so_20 (k := k) (a := a) (b := b) (v := v) (l0 := l0) C hdec hk hs (Gn c' rfl)
theorem ok_21 : OpOK b0 sv cy D sc M p l e R s m args below meth c Q dd cd0 Kc (ck_s .lsub) (f_ll (fun x y => x - y)) := by
  intro k a b v l0 i len L st hp B r hR1 C hcall hdec Gn Gc Gr hk hs
  obtain ⟨c', rfl⟩ := il_f_ll hs
  exact so_21 (k := k) (a := a) (b := b) (v := v) (l0 := l0) C hdec hk hs (Gn c' rfl)
theorem ok_22 : OpOK b0 sv cy D sc M p l e R s m args below meth c Q dd cd0 Kc (ck_s .land) (f_ll (fun x y => x &&& y)) := by
  intro k a b v l0 i len L st hp B r hR1 C hcall hdec Gn Gc Gr hk hs
  obtain ⟨c', rfl⟩ := il_f_ll hs
  exact so_22 (k := k) (a := a) (b := b) (v := v) (l0 := l0) C hdec hk hs (Gn c' rfl)
theorem ok_23 : OpOK b0 sv cy D sc M p l e R s m args below meth c Q dd cd0 Kc (ck_s .lor) (f_ll (fun x y => x ||| y)) := by
  intro k a b v l0 i len L st hp B r hR1 C hcall hdec Gn Gc Gr hk hs
  obtain ⟨c', rfl⟩ := il_f_ll hs
  exact so_23 (k := k) (a := a) (b := b) (v := v) (l0 := l0) C hdec hk hs (Gn c' rfl)
theorem ok_24 : OpOK b0 sv cy D sc M p l e R s m args below meth c Q dd cd0 Kc (ck_s .lxor) (f_ll (fun x y => x ^^^ y)) := by
  intro k a b v l0 i len L st hp B r hR1 C hcall hdec Gn Gc Gr hk hs
  obtain ⟨c', rfl⟩ := il_f_ll hs
  exact so_24 (k := k) (a := a) (b := b) (v := v) (l0 := l0) C hdec hk hs (Gn c' rfl)
theorem ok_25 : OpOK b0 sv cy D sc M p l e R s m args below meth c Q dd cd0 Kc (ck_s .lshl) (f_li (fun x k => x <<< k)) := by
  intro k a b v l0 i len L st hp B r hR1 C hcall hdec Gn Gc Gr hk hs
  obtain ⟨c', rfl⟩ := il_f_li hs
  exact so_25 (k := k) (a := a) (b := b) (v := v) (l0 := l0) C hdec hk hs (Gn c' rfl)
theorem ok_26 : OpOK b0 sv cy D sc M p l e R s m args below meth c Q dd cd0 Kc (ck_s .lushr) (f_li (fun x k => x >>> k)) := by
  intro k a b v l0 i len L st hp B r hR1 C hcall hdec Gn Gc Gr hk hs
  obtain ⟨c', rfl⟩ := il_f_li hs
  exact so_26 (k := k) (a := a) (b := b) (v := v) (l0 := l0) C hdec hk hs (Gn c' rfl)
theorem ok_27 : OpOK b0 sv cy D sc M p l e R s m args below meth c Q dd cd0 Kc (ck_s .lcmp) f_lcmp := by
  intro k a b v l0 i len L st hp B r hR1 C hcall hdec Gn Gc Gr hk hs
  obtain ⟨c', rfl⟩ := il_f_lcmp hs
  exact so_27 (k := k) (a := a) (b := b) (v := v) (l0 := l0) C hdec hk hs (Gn c' rfl)
theorem ok_28 : OpOK b0 sv cy D sc M p l e R s m args below meth c Q dd cd0 Kc (ck_s .i2l) f_i2l := by
  intro k a b v l0 i len L st hp B r hR1 C hcall hdec Gn Gc Gr hk hs
  obtain ⟨c', rfl⟩ := il_f_i2l hs
  exact so_28 (k := k) (a := a) (b := b) (v := v) (l0 := l0) C hdec hk hs (Gn c' rfl)
theorem ok_29 : OpOK b0 sv cy D sc M p l e R s m args below meth c Q dd cd0 Kc (ck_s .l2i) f_l2i := by
  intro k a b v l0 i len L st hp B r hR1 C hcall hdec Gn Gc Gr hk hs
  obtain ⟨c', rfl⟩ := il_f_l2i hs
  exact so_29 (k := k) (a := a) (b := b) (v := v) (l0 := l0) C hdec hk hs (Gn c' rfl)
theorem ok_30 : OpOK b0 sv cy D sc M p l e R s m args below meth c Q dd cd0 Kc (ck_s .i2b) (f_i i2b) := by
  intro k a b v l0 i len L st hp B r hR1 C hcall hdec Gn Gc Gr hk hs
  obtain ⟨c', rfl⟩ := il_f_i hs
  exact so_30 (k := k) (a := a) (b := b) (v := v) (l0 := l0) C hdec hk hs (Gn c' rfl)
theorem ok_31 : OpOK b0 sv cy D sc M p l e R s m args below meth c Q dd cd0 Kc (ck_s .i2s) (f_i i2s) := by
  intro k a b v l0 i len L st hp B r hR1 C hcall hdec Gn Gc Gr hk hs
  obtain ⟨c', rfl⟩ := il_f_i hs
  exact so_31 (k := k) (a := a) (b := b) (v := v) (l0 := l0) C hdec hk hs (Gn c' rfl)
theorem ok_32 : OpOK b0 sv cy D sc M p l e R s m args below meth c Q dd cd0 Kc (ck_s .dup) f_dup := by
  intro k a b v l0 i len L st hp B r hR1 C hcall hdec Gn Gc Gr hk hs
  obtain ⟨c', rfl⟩ := il_f_dup hs
  exact so_32 (k := k) (a := a) (b := b) (v := v) (l0 := l0) C hdec hk hs (Gn c' rfl)
theorem ok_33 : OpOK b0 sv cy D sc M p l e R s m args below meth c Q dd cd0 Kc (ck_s .dup2) f_dup2 := by
  intro k a b v l0 i len L st hp B r hR1 C hcall hdec Gn Gc Gr hk hs
  obtain ⟨c', rfl⟩ := il_f_dup2 hs
  exact so_33 (k := k) (a := a) (b := b) (v := v) (l0 := l0) C hdec hk hs (Gn c' rfl)
theorem ok_34 : OpOK b0 sv cy D sc M p l e R s m args below meth c Q dd cd0 Kc ck_if f_if := by
  intro k a b v l0 i len L st hp B r hR1 C hcall hdec Gn Gc Gr hk hs
  obtain ⟨c', rfl⟩ := il_f_if hs
  exact so_34 (k := k) (a := a) (b := b) (v := v) (l0 := l0) C hdec hk hs (Gn c' rfl)
theorem ok_35 : OpOK b0 sv cy D sc M p l e R s m args below meth c Q dd cd0 Kc ck_icmp f_icmp := by
  intro k a b v l0 i len L st hp B r hR1 C hcall hdec Gn Gc Gr hk hs
  obtain ⟨c', rfl⟩ := il_f_icmp hs
  exact so_35 (k := k) (a := a) (b := b) (v := v) (l0 := l0) C hdec hk hs (Gn c' rfl)
theorem ok_36 : OpOK b0 sv cy D sc M p l e R s m args below meth c Q dd cd0 Kc ck_goto f_goto := by
  intro k a b v l0 i len L st hp B r hR1 C hcall hdec Gn Gc Gr hk hs
  obtain ⟨c', rfl⟩ := il_f_goto hs
  exact so_36 (k := k) (a := a) (b := b) (v := v) (l0 := l0) C hdec hk hs (Gn c' rfl)
theorem ok_37 : OpOK b0 sv cy D sc M p l e R s m args below meth c Q dd cd0 Kc ck_nonnull f_nonnull := by
  intro k a b v l0 i len L st hp B r hR1 C hcall hdec Gn Gc Gr hk hs
  obtain ⟨c', rfl⟩ := il_f_nonnull hs
  exact so_37 (k := k) (a := a) (b := b) (v := v) (l0 := l0) C hdec hk hs (Gn c' rfl)
theorem ok_38 : OpOK b0 sv cy D sc M p l e R s m args below meth c Q dd cd0 Kc ck_switch f_switch := by
  intro k a b v l0 i len L st hp B r hR1 C hcall hdec Gn Gc Gr hk hs
  obtain ⟨c', rfl⟩ := il_f_switch hs
  exact so_38 (k := k) (a := a) (b := b) (v := v) (l0 := l0) C hdec hk hs (Gn c' rfl)
theorem ok_39 : OpOK b0 sv cy D sc M p l e R s m args below meth c Q dd cd0 Kc ck_getf f_getf := by
  intro k a b v l0 i len L st hp B r hR1 C hcall hdec Gn Gc Gr hk hs
  obtain ⟨c', rfl⟩ := il_f_getf hs
  exact so_39 (k := k) (a := a) (b := b) (v := v) (l0 := l0) C hdec hk hs (Gn c' rfl)
theorem ok_40 : OpOK b0 sv cy D sc M p l e R s m args below meth c Q dd cd0 Kc ck_putf f_putf := by
  intro k a b v l0 i len L st hp B r hR1 C hcall hdec Gn Gc Gr hk hs
  obtain ⟨c', rfl⟩ := il_f_putf hs
  exact so_40 (k := k) (a := a) (b := b) (v := v) (l0 := l0) C hdec hk hs (Gn c' rfl)
theorem ok_41 : OpOK b0 sv cy D sc M p l e R s m args below meth c Q dd cd0 Kc ck_gets0 f_gets := by
  intro k a b v l0 i len L st hp B r hR1 C hcall hdec Gn Gc Gr hk hs
  obtain ⟨c', rfl⟩ := il_f_gets hs
  exact so_41 (k := k) (a := a) (b := b) (v := v) (l0 := l0) C hdec (of_decide_eq_true (Bool.and_eq_true_iff.mp hk).2) (Bool.and_eq_true_iff.mp hk).1 hs (Gn c' rfl)
theorem ok_42 : OpOK b0 sv cy D sc M p l e R s m args below meth c Q dd cd0 Kc ck_ldcs f_ldcs := by
  intro k a b v l0 i len L st hp B r hR1 C hcall hdec Gn Gc Gr hk hs
  obtain ⟨c', rfl⟩ := il_f_ldcs hs
  exact so_42 (k := k) (a := a) (b := b) (v := v) (l0 := l0) C hdec hk hs (Gn c' rfl)
theorem ok_43 : OpOK b0 sv cy D sc M p l e R s m args below meth c Q dd cd0 Kc (ck_s .iaload) f_iald := by
  intro k a b v l0 i len L st hp B r hR1 C hcall hdec Gn Gc Gr hk hs
  obtain ⟨c', rfl⟩ := il_f_iald hs
  exact so_43 (k := k) (a := a) (b := b) (v := v) (l0 := l0) C hdec hk hs (Gn c' rfl)
theorem ok_44 : OpOK b0 sv cy D sc M p l e R s m args below meth c Q dd cd0 Kc (ck_s .baload) f_bald := by
  intro k a b v l0 i len L st hp B r hR1 C hcall hdec Gn Gc Gr hk hs
  obtain ⟨c', rfl⟩ := il_f_bald hs
  exact so_44 (k := k) (a := a) (b := b) (v := v) (l0 := l0) C hdec hk hs (Gn c' rfl)
theorem ok_45 : OpOK b0 sv cy D sc M p l e R s m args below meth c Q dd cd0 Kc (ck_s .laload) f_lald := by
  intro k a b v l0 i len L st hp B r hR1 C hcall hdec Gn Gc Gr hk hs
  obtain ⟨c', rfl⟩ := il_f_lald hs
  exact so_45 (k := k) (a := a) (b := b) (v := v) (l0 := l0) C hdec hk hs (Gn c' rfl)
theorem ok_46 : OpOK b0 sv cy D sc M p l e R s m args below meth c Q dd cd0 Kc ck_aald f_aald := by
  intro k a b v l0 i len L st hp B r hR1 C hcall hdec Gn Gc Gr hk hs
  obtain ⟨c', rfl⟩ := il_f_aald hs
  exact so_46 (k := k) (a := a) (b := b) (v := v) (l0 := l0) C hdec hk hs (Gn c' rfl)
theorem ok_47 : OpOK b0 sv cy D sc M p l e R s m args below meth c Q dd cd0 Kc (ck_s .iastore) f_iast := by
  intro k a b v l0 i len L st hp B r hR1 C hcall hdec Gn Gc Gr hk hs
  obtain ⟨c', rfl⟩ := il_f_iast hs
  exact so_47 (k := k) (a := a) (b := b) (v := v) (l0 := l0) C hdec hk hs (Gn c' rfl)
theorem ok_48 : OpOK b0 sv cy D sc M p l e R s m args below meth c Q dd cd0 Kc (ck_s .bastore) f_bast := by
  intro k a b v l0 i len L st hp B r hR1 C hcall hdec Gn Gc Gr hk hs
  obtain ⟨c', rfl⟩ := il_f_bast hs
  exact so_48 (k := k) (a := a) (b := b) (v := v) (l0 := l0) C hdec hk hs (Gn c' rfl)
theorem ok_49 : OpOK b0 sv cy D sc M p l e R s m args below meth c Q dd cd0 Kc (ck_s .lastore) f_last := by
  intro k a b v l0 i len L st hp B r hR1 C hcall hdec Gn Gc Gr hk hs
  obtain ⟨c', rfl⟩ := il_f_last hs
  exact so_49 (k := k) (a := a) (b := b) (v := v) (l0 := l0) C hdec hk hs (Gn c' rfl)
theorem ok_50 : OpOK b0 sv cy D sc M p l e R s m args below meth c Q dd cd0 Kc ck_aast f_aast := by
  intro k a b v l0 i len L st hp B r hR1 C hcall hdec Gn Gc Gr hk hs
  obtain ⟨c', rfl⟩ := il_f_aast hs
  exact so_50 (k := k) (a := a) (b := b) (v := v) (l0 := l0) C hdec hk hs (Gn c' rfl)
theorem ok_51 : OpOK b0 sv cy D sc M p l e R s m args below meth c Q dd cd0 Kc ck_newa f_newa := by
  intro k a b v l0 i len L st hp B r hR1 C hcall hdec Gn Gc Gr hk hs
  obtain ⟨c', rfl⟩ := il_f_newa hs
  exact so_51 (k := k) (a := a) (b := b) (v := v) (l0 := l0) C hdec hk hs (Gn c' rfl)
theorem ok_52 : OpOK b0 sv cy D sc M p l e R s m args below meth c Q dd cd0 Kc ck_newq f_newq := by
  intro k a b v l0 i len L st hp B r hR1 C hcall hdec Gn Gc Gr hk hs
  obtain ⟨c', rfl⟩ := il_f_newq hs
  exact so_52 (k := k) (a := a) (b := b) (v := v) (l0 := l0) C hdec hk hs (Gn c' rfl)
theorem ok_53 : OpOK b0 sv cy D sc M p l e R s m args below meth c Q dd cd0 Kc ck_newg f_newg := by
  intro k a b v l0 i len L st hp B r hR1 C hcall hdec Gn Gc Gr hk hs
  obtain ⟨c', rfl⟩ := il_f_newg hs
  exact so_53 (k := k) (a := a) (b := b) (v := v) (l0 := l0) C hdec hk hs (Gn c' rfl)
theorem ok_54 : OpOK b0 sv cy D sc M p l e R s m args below meth c Q dd cd0 Kc ck_new f_new := by
  intro k a b v l0 i len L st hp B r hR1 C hcall hdec Gn Gc Gr hk hs
  obtain ⟨c', rfl⟩ := il_f_new hs
  exact so_54 (k := k) (a := a) (b := b) (v := v) (l0 := l0) C hdec hk hs (Gn c' rfl)
theorem ok_55 : OpOK b0 sv cy D sc M p l e R s m args below meth c Q dd cd0 Kc ck_call f_call := by
  intro k a b v l0 i len L st hp B r hR1 C hcall hdec Gn Gc Gr hk hs
  obtain ⟨⟨y, as, c'⟩, rfl⟩ := ca_call hs
  rcases hcall with hno | ⟨HC, hR2⟩
  · exact absurd (Gc y as c' rfl).1 (hno _ _ _ _)
  · exact so_55 (k := k) (a := a) (b := b) (v := v) (l0 := l0) (K := Kc y as c') hR2 C HC hdec hk hs (Gc y as c' rfl).1 (Gc y as c' rfl).2
theorem ok_56 : OpOK b0 sv cy D sc M p l e R s m args below meth c Q dd cd0 Kc ck_callv f_callv := by
  intro k a b v l0 i len L st hp B r hR1 C hcall hdec Gn Gc Gr hk hs
  obtain ⟨⟨y, as, c'⟩, rfl⟩ := ca_callv hs
  rcases hcall with hno | ⟨HC, hR2⟩
  · exact absurd (Gc y as c' rfl).1 (hno _ _ _ _)
  · exact so_56 (k := k) (a := a) (b := b) (v := v) (l0 := l0) (K := Kc y as c') hR2 C HC hdec hk hs (Gc y as c' rfl).1 (Gc y as c' rfl).2
theorem ok_57 : OpOK b0 sv cy D sc M p l e R s m args below meth c Q dd cd0 Kc ck_ret f_ret := by
  intro k a b v l0 i len L st hp B r hR1 C hcall hdec Gn Gc Gr hk hs
  obtain ⟨v1, rfl, hat, hst⟩ := re_ret hdec hk hs
  exact Gr v1 rfl hat hst
theorem ok_58 : OpOK b0 sv cy D sc M p l e R s m args below meth c Q dd cd0 Kc ck_oinit f_objinit := by
  intro k a b v l0 i len L st hp B r hR1 C hcall hdec Gn Gc Gr hk hs
  obtain ⟨c', rfl⟩ := il_f_objinit hs
  exact so_58 (k := k) (a := a) (b := b) (v := v) (l0 := l0) hR1 C hdec hk hs (Gn c' rfl)
theorem ok_59 : OpOK b0 sv cy D sc M p l e R s m args below meth c Q dd cd0 Kc ck_copy f_copyi := by
  intro k a b v l0 i len L st hp B r hR1 C hcall hdec Gn Gc Gr hk hs
  obtain ⟨c', rfl⟩ := il_f_copyi hs
  exact so_59 (k := k) (a := a) (b := b) (v := v) (l0 := l0) hR1 C hdec hk hs (Gn c' rfl)
theorem ok_60 : OpOK b0 sv cy D sc M p l e R s m args below meth c Q dd cd0 Kc ck_copy f_copyl := by
  intro k a b v l0 i len L st hp B r hR1 C hcall hdec Gn Gc Gr hk hs
  obtain ⟨c', rfl⟩ := il_f_copyl hs
  exact so_60 (k := k) (a := a) (b := b) (v := v) (l0 := l0) hR1 C hdec hk hs (Gn c' rfl)
theorem ok_61 : OpOK b0 sv cy D sc M p l e R s m args below meth c Q dd cd0 Kc (ck_tf 0) f_tval := by
  intro k a b v l0 i len L st hp B r hR1 C hcall hdec Gn Gc Gr hk hs
  obtain ⟨c', rfl⟩ := il_f_tval hs
  exact so_61 (k := k) (a := a) (b := b) (v := v) (l0 := l0) C hdec hk hs (Gn c' rfl)
theorem ok_62 : OpOK b0 sv cy D sc M p l e R s m args below meth c Q dd cd0 Kc (ck_tf 1) f_tcod := by
  intro k a b v l0 i len L st hp B r hR1 C hcall hdec Gn Gc Gr hk hs
  obtain ⟨c', rfl⟩ := il_f_tcod hs
  exact so_62 (k := k) (a := a) (b := b) (v := v) (l0 := l0) C hdec hk hs (Gn c' rfl)
theorem ok_63 : OpOK b0 sv cy D sc M p l e R s m args below meth c Q dd cd0 Kc (ck_s .baload) f_tbald := by
  intro k a b v l0 i len L st hp B r hR1 C hcall hdec Gn Gc Gr hk hs
  obtain ⟨c', rfl⟩ := il_f_tbald hs
  exact so_63 (k := k) (a := a) (b := b) (v := v) (l0 := l0) C hdec hk hs (Gn c' rfl)
theorem ok_64 : OpOK b0 sv cy D sc M p l e R s m args below meth c Q dd cd0 Kc ck_gcs f_gcs := by
  intro k a b v l0 i len L st hp B r hR1 C hcall hdec Gn Gc Gr hk hs
  obtain ⟨c', rfl⟩ := il_f_gcs hs
  exact so_64 (k := k) (a := a) (b := b) (v := v) (l0 := l0) C hdec hk hs (Gn c' rfl)
theorem ok_65 : OpOK b0 sv cy D sc M p l e R s m args below meth c Q dd cd0 Kc ck_slen f_slen := by
  intro k a b v l0 i len L st hp B r hR1 C hcall hdec Gn Gc Gr hk hs
  obtain ⟨c', rfl⟩ := il_f_slen hs
  exact so_65 (k := k) (a := a) (b := b) (v := v) (l0 := l0) (of_decide_eq_true (Bool.and_eq_true_iff.mp hk).2) C hdec (Bool.and_eq_true_iff.mp hk).1 hs (Gn c' rfl)
theorem ok_66 : OpOK b0 sv cy D sc M p l e R s m args below meth c Q dd cd0 Kc (ck_s .arraylength) f_tlen := by
  intro k a b v l0 i len L st hp B r hR1 C hcall hdec Gn Gc Gr hk hs
  obtain ⟨c', rfl⟩ := il_f_tlen hs
  exact so_66 (k := k) (a := a) (b := b) (v := v) (l0 := l0) C hdec hk hs (Gn c' rfl)
theorem ok_67 : OpOK b0 sv cy D sc M p l e R s m args below meth c Q dd cd0 Kc ck_alen f_alen := by
  intro k a b v l0 i len L st hp B r hR1 C hcall hdec Gn Gc Gr hk hs
  obtain ⟨c', rfl⟩ := il_f_alen hs
  exact so_67 (k := k) (a := a) (b := b) (v := v) (l0 := l0) C hdec hk hs (Gn c' rfl)
theorem ok_68 : OpOK b0 sv cy D sc M p l e R s m args below meth c Q dd cd0 Kc (ck_s .i2c) (f_i i2c) := by
  intro k a b v l0 i len L st hp B r hR1 C hcall hdec Gn Gc Gr hk hs
  obtain ⟨c', rfl⟩ := il_f_i hs
  exact so_68 (k := k) (a := a) (b := b) (v := v) (l0 := l0) C hdec hk hs (Gn c' rfl)
theorem ok_69 : OpOK b0 sv cy D sc M p l e R s m args below meth c Q dd cd0 Kc (ck_s .pop) f_pop := by
  intro k a b v l0 i len L st hp B r hR1 C hcall hdec Gn Gc Gr hk hs
  obtain ⟨c', rfl⟩ := il_f_pop hs
  exact so_69 (k := k) (a := a) (b := b) (v := v) (l0 := l0) C hdec hk hs (Gn c' rfl)
theorem ok_70 : OpOK b0 sv cy D sc M p l e R s m args below meth c Q dd cd0 Kc ck_callt f_callt := by
  intro k a b v l0 i len L st hp B r hR1 C hcall hdec Gn Gc Gr hk hs
  obtain ⟨⟨y, as, c'⟩, rfl⟩ := ca_callt hs
  rcases hcall with hno | ⟨HC, hR2⟩
  · exact absurd (Gc y as c' rfl).1 (hno _ _ _ _)
  · exact so_70 (k := k) (a := a) (b := b) (v := v) (l0 := l0) (K := Kc y as c') hR2 C HC hdec hk hs (Gc y as c' rfl).1 (Gc y as c' rfl).2
theorem ok_71 : OpOK b0 sv cy D sc M p l e R s m args below meth c Q dd cd0 Kc (ck_math 0) f_mmin := by
  intro k a b v l0 i len L st hp B r hR1 C hcall hdec Gn Gc Gr hk hs
  obtain ⟨c', rfl⟩ := il_f_mmin hs
  exact so_71 (k := k) (a := a) (b := b) (v := v) (l0 := l0) hR1 C hdec hk hs (Gn c' rfl)
theorem ok_72 : OpOK b0 sv cy D sc M p l e R s m args below meth c Q dd cd0 Kc (ck_math 1) f_mmax := by
  intro k a b v l0 i len L st hp B r hR1 C hcall hdec Gn Gc Gr hk hs
  obtain ⟨c', rfl⟩ := il_f_mmax hs
  exact so_72 (k := k) (a := a) (b := b) (v := v) (l0 := l0) hR1 C hdec hk hs (Gn c' rfl)
theorem ok_73 : OpOK b0 sv cy D sc M p l e R s m args below meth c Q dd cd0 Kc (ck_math 2) f_mabs := by
  intro k a b v l0 i len L st hp B r hR1 C hcall hdec Gn Gc Gr hk hs
  obtain ⟨c', rfl⟩ := il_f_mabs hs
  exact so_73 (k := k) (a := a) (b := b) (v := v) (l0 := l0) hR1 C hdec hk hs (Gn c' rfl)
theorem ok_74 : OpOK b0 sv cy D sc M p l e R s m args below meth c Q dd cd0 Kc ck_calli f_calli := by
  intro k a b v l0 i len L st hp B r hR1 C hcall hdec Gn Gc Gr hk hs
  obtain ⟨⟨y, as, c'⟩, rfl⟩ := ca_calli hs
  rcases hcall with hno | ⟨HC, hR2⟩
  · exact absurd (Gc y as c' rfl).1 (hno _ _ _ _)
  · exact so_74 (k := k) (a := a) (b := b) (v := v) (l0 := l0) (K := Kc y as c') hR2 C HC hdec hk hs (Gc y as c' rfl).1 (Gc y as c' rfl).2
end OKS
theorem ok_all (b0 : Nat) (sv : Nat → Value) (cy : Nat → ClassId) (D : va_G) (sc : List Int) (M : Nat) (p : Program) (l : Launch) (e : Env) (R : Room) (s : State) (m : MethodId) (args : Array Value) (below : List Frame) (meth : Method) (c : Code) (Q : State → Prop) (dd : Nat) (cd0 : CT) (Kc : Nat → List AV → CF → PO) : ∀ op : Nat, OpOK b0 sv cy D sc M p l e R s m args below meth c Q dd cd0 Kc (cT.getD op ck_no) (fT.getD op f_none) := ok_cons ok_0 (ok_cons ok_1 (ok_cons ok_2 (ok_cons ok_3 (ok_cons ok_4 (ok_cons ok_5 (ok_cons ok_6 (ok_cons ok_7 (ok_cons ok_8 (ok_cons ok_9 (ok_cons ok_10 (ok_cons ok_11 (ok_cons ok_12 (ok_cons ok_13 (ok_cons ok_14 (ok_cons ok_15 (ok_cons ok_16 (ok_cons ok_17 (ok_cons ok_18 (ok_cons ok_19 (ok_cons ok_20 (ok_cons ok_21 (ok_cons ok_22 (ok_cons ok_23 (ok_cons ok_24 (ok_cons ok_25 (ok_cons ok_26 (ok_cons ok_27 (ok_cons ok_28 (ok_cons ok_29 (ok_cons ok_30 (ok_cons ok_31 (ok_cons ok_32 (ok_cons ok_33 (ok_cons ok_34 (ok_cons ok_35 (ok_cons ok_36 (ok_cons ok_37 (ok_cons ok_38 (ok_cons ok_39 (ok_cons ok_40 (ok_cons ok_41 (ok_cons ok_42 (ok_cons ok_43 (ok_cons ok_44 (ok_cons ok_45 (ok_cons ok_46 (ok_cons ok_47 (ok_cons ok_48 (ok_cons ok_49 (ok_cons ok_50 (ok_cons ok_51 (ok_cons ok_52 (ok_cons ok_53 (ok_cons ok_54 (ok_cons ok_55 (ok_cons ok_56 (ok_cons ok_57 (ok_cons ok_58 (ok_cons ok_59 (ok_cons ok_60 (ok_cons ok_61 (ok_cons ok_62 (ok_cons ok_63 (ok_cons ok_64 (ok_cons ok_65 (ok_cons ok_66 (ok_cons ok_67 (ok_cons ok_68 (ok_cons ok_69 (ok_cons ok_70 (ok_cons ok_71 (ok_cons ok_72 (ok_cons ok_73 (ok_cons ok_74 (ok_nil)))))))))))))))))))))))))))))))))))))))))))))))))))))))))))))))))))))))))))
theorem cd_far {M k : Nat} (h1 : (cdL M).length ≤ (mP M).length / 24 + 1) (h2 : (cdq M ((mP M).length / 24)).length ≤ (mP M).length % 24) (hk : (mP M).length ≤ k) : cd M k = eX := by
  unfold cd
  rcases Nat.lt_or_ge ((mP M).length / 24) (k / 24) with h | h
  · have : cdq M (k / 24) = [] := by
      show (cdL M).getD (k / 24) [] = []
      rw [List.getD_eq_getElem?_getD, List.getElem?_eq_none (by omega)]
      rfl
    rw [this]
    rfl
  · have e : k / 24 = (mP M).length / 24 := Nat.le_antisymm h (Nat.div_le_div_right hk)
    rw [e, List.getD_eq_getElem?_getD, List.getElem?_eq_none (by omega)]
    rfl
theorem run_ok {b0 : Nat} {sv : Nat → Value} {cy : Nat → ClassId} {D : va_G} {sc : List Int} {M : Nat} {p : Program} {l : Launch} {e : Env} {R : Room} {s : State} {m : MethodId} {args : Array Value} {below : List Frame} {meth : Method} {c : Code} {Q : State → Prop} {dd : Nat} {cd0 : CT} {R0 : PO} (hR1 : 1 ≤ R.frames ∧ 60 ≤ R.locals) (C : CX b0 sv cy D sc M p s m args meth c) (hcall : (∀ M as hp R0, ¬ cd0 M as hp R0) ∨ (CallOK b0 sv cy D l dd cd0 ∧ dd + 2 ≤ R.frames ∧ 60 * (dd + 2) ≤ R.locals)) (hok : ckM M = true) (hRet : RetOK b0 sv cy D M p l e R s m args below meth c Q R0) :
    ∀ (n k : Nat) (L : LV) (st : List AV) (hp : HP) (B : BU), awN cd0 sc M R0 n (k, L, st, hp, B) → GP b0 sv cy D M p l e R s m args below meth c Q (pcO M k) L st hp B := by
  unfold ckM at hok
  simp only [Bool.and_eq_true, decide_eq_true_eq] at hok
  obtain ⟨⟨⟨⟨hall, -⟩, hl1⟩, hl2⟩, -⟩ := hok
  intro n
  induction n with
  | zero => intro k L st hp B h; exact h.elim
  | succ n ih =>
    intro k L st hp B h
    unfold awN at h
    cases hs : stepE sc (cd M k) (k + 1) L st hp B with
    | none => rw [hs] at h; exact h.elim
    | some r =>
      rw [hs] at h
      have hkl : k < (mP M).length := by
        rcases Nat.lt_or_ge k (mP M).length with q | q
        · exact q
        · rw [cd_far hl1 hl2 q] at hs
          cases hs
      have hck := List.all_eq_true.mp hall k (List.mem_range.mpr hkl)
      unfold ckI at hck
      rw [Bool.or_eq_true] at hck
      rcases hck with h99 | hck
      · have h99 := of_decide_eq_true h99
        unfold stepE at hs
        rw [h99] at hs
        cases hs
      · cases hdec : decode (mC M) (pcO M k) with
        | error er => rw [hdec] at hck; cases hck
        | ok q =>
          obtain ⟨i, len⟩ := q
          rw [hdec] at hck
          refine ok_all b0 sv cy D sc M p l e R s m args below meth c Q dd cd0 (fun _ _ c' v h => awN cd0 sc M R0 n (c'.1, c'.2.1, v.toList ++ c'.2.2.1, h, c'.2.2.2.2)) _ _ _ _ _ _ _ _ _ _ _ _ r hR1 C hcall hdec ?_ ?_ ?_ hck hs
          · rintro c' rfl
            exact ih _ _ _ _ _ h
          · rintro y as c' rfl
            exact ⟨h, fun v h' hv => ih _ _ _ _ _ hv⟩
          · rintro v1 rfl hat hst hL ls H locs cells slots h1 h2 h3 h4 h5
            have hg := hRet v1 hp _ h hat ls H locs cells slots h2 h3 (by omega) (by omega)
            rw [hst]
            have e9 : v1.toList.map (cv b0 sv) = (v1.map (cv b0 sv)).toList := by cases v1 <;> rfl
            rw [e9]
            exact hg
/-- a method's end -/
theorem ret_ok {b0 : Nat} {sv : Nat → Value} {cy : Nat → ClassId} {D : va_G} {M : Nat} {p : Program} {l : Launch} {e : Env} {R : Room} {s : State} {m : MethodId} {args : Array Value} {below : List Frame} {meth : Method} {c : Code} {R0 : PO} (hx : p.tables.exec = Jvm.exec) (hb : c.code = mC M) (hr : meth.sig.returnType = mT M) (hlocks : meth.locks = false) : RetOK b0 sv cy D M p l e R s m args below meth c (MQ below (QcM b0 sv cy D R0) args s R.cells R.slots (aNew b0)) R0 := by
  intro v h pc hv hat ls H locs cells slots hRH hS hc1 hc2
  refine W.widen (k := R.cells) (n := R.slots) hc1 hc2 ?_
  have hq : ∀ t : State, t.heap = H → s.WarmedH t.vm → QcM b0 sv cy D R0 args s (.returned (v.map (cv b0 sv))) t := fun t ht _ => ⟨⟨v, h, rfl, by rw [ht]; exact hRH, hv⟩, hS.F ht⟩
  rcases hat with ⟨rfl, hdec, ht⟩ | ⟨x, rfl, hdec, ht⟩ | ⟨x, rfl, hdec, ht⟩
  · exact W.vret hx hb (hr.trans ht) hq hS.2.2 hdec
  · rcases ht with ht | ⟨ht, hx01⟩ | ⟨ht, h0, h1⟩
    · exact W.iret (v := Int32.ofInt x) hx hb (hr.trans ht) hq hS.2.2 hdec
    · refine W.zret (v := Int32.ofInt x) (ty := .boolean) hx hb (hr.trans ht) ?_ hq hS.2.2 hdec
      rcases hx01 with rfl | rfl
      · decide +kernel
      · decide +kernel
    · have key : ∀ n : Nat, n < 128 → narrow .char (.int (Int32.ofInt n)) = .int (Int32.ofInt n) ∧ narrow .byte (.int (Int32.ofInt n)) = .int (Int32.ofInt n) := by decide +kernel
      have hxn : x = (x.toNat : Int) := by omega
      have k2 := key x.toNat (by omega)
      rw [← hxn] at k2
      rcases ht with ht | ht
      · exact W.zret (v := Int32.ofInt x) (ty := .char) hx hb (hr.trans ht) k2.1 hq hS.2.2 hdec
      · exact W.zret (v := Int32.ofInt x) (ty := .byte) hx hb (hr.trans ht) k2.2 hq hS.2.2 hdec
  · exact W.lret (v := Int64.ofBitVec x) hx hb (hr.trans ht) hq hS.2.2 hdec
theorem callOK_step {b0 : Nat} {sv : Nat → Value} {cy : Nat → ClassId} {D : va_G} {l : Launch} (hsv : SVok sv) (hck : ∀ M, M < nM → ckM M = true) {dd : Nat} (d : Nat) (hcall : (∀ M as hp R0, ¬ callD d M as hp R0) ∨ (CallOK b0 sv cy D l dd (callD d) ∧ dd + 2 ≤ d + 1 ∧ 60 * (dd + 2) ≤ 60 * (d + 1))) : CallOK b0 sv cy D l d (callD (d + 1)) := by
  intro M as hp R0 hM hcd
  obtain ⟨hlen, n, hrun⟩ := hcd
  obtain ⟨o1, o2, o3, o4⟩ := mOk_of hM
  have hokM := hck M hM
  have hmx : mxN M = mX M ∧ pcO M 0 = 0 := by
    have := hokM
    unfold ckM at this
    simp only [Bool.and_eq_true, decide_eq_true_eq] at this
    exact ⟨this.2, this.1.1.1.2⟩
  refine Met.ofW (cc := mC M) (maxL := mX M) (ret := mT M) (ws' := BIG) o3 rfl ?_
  intro p e s m args below meth c s₁ Bd hml hPc
  obtain ⟨rfl, hRH, hK, hSK, hFC⟩ := hPc
  have hts := atoms_spec (ws := wsM M) Bd.pre
  have hown : s.vm.findClass (mO M) = some m.cls := by rw [← o1]; exact findClass_of_methodNamed Bd.named
  have hnm : meth.name = (mY M).name := (name_of_methodNamed Bd.named Bd.method).1
  have C : CX b0 sv cy D [] M p s m (as.map (cv b0 sv)).toArray meth c := ⟨Bd.exec, Bd.bytes, hml, hown, fun w hw => hts w (List.mem_cons_of_mem _ hw), fun h => hnm.trans h, hK, hSK, fun h => h.elim (fun h => absurd rfl h) (fun h => absurd h (Nat.ne_of_lt hM)), hsv, by rw [hRH.1]; omega, hFC.1, hFC.2.1, hFC.2.2⟩
  have hL : (entL as ++ List.replicate (np M) none).length = mX M := by rw [List.length_append, List.length_replicate, hlen, hmx.1]
  obtain ⟨ls, hls, hLR⟩ := LR_entry (b0 := b0) (sv := sv) hsv as (np M) (mX M) hL
  rw [lg_entry_eq]
  rw [← hls]
  have hret : RetOK b0 sv cy D M p l e (rmM d M) s m (as.map (cv b0 sv)).toArray below meth c (MQ below (QcM b0 sv cy D R0) (as.map (cv b0 sv)).toArray s (bu M).1 (bu M).2 (aNew b0)) R0 := ret_ok (R := rmM d M) Bd.exec Bd.bytes Bd.returns Bd.notSynchronized
  have hg := run_ok (R := rmM d M) (dd := dd) ⟨by show 1 ≤ d + 1; omega, by show 60 ≤ 60 * (d + 1); omega⟩ C hcall hokM hret n 0 _ _ _ _ hrun
  rw [hmx.2] at hg
  exact hg hL ls s.heap [] 0 0 hLR hRH va_S.rf (by show 0 + (bu M).1 ≤ _; rw [Nat.zero_add]; exact Nat.le_refl _) (by show 0 + (bu M).2 ≤ _; rw [Nat.zero_add]; exact Nat.le_refl _)
/-- every method, at every depth -/
theorem callOK {b0 : Nat} {sv : Nat → Value} {cy : Nat → ClassId} {D : va_G} {l : Launch} (hsv : SVok sv) (hck : ∀ M, M < nM → ckM M = true) : ∀ d, CallOK b0 sv cy D l d (callD (d + 1)) := by
  intro d
  induction d with
  | zero =>
    intro M as hp R0 hM hcd
    exact callOK_step (dd := 0) hsv hck 0 (Or.inl (fun _ _ _ _ h => h)) M as hp R0 hM hcd
  | succ d ih =>
    exact callOK_step hsv hck (d + 1) (Or.inr ⟨ih, Nat.le_refl _, Nat.le_refl _⟩)
