section SP
variable {E : Ev} {h : PH} {Q : Rt → PH → Prop}
noncomputable def b01 (P : Prop) : Int32 := @ite _ P (Classical.propDecidable P) 1 0
theorem b01_t {P : Prop} (h : P) : b01 P = 1 := by unfold b01; exact @if_pos P (Classical.propDecidable P) h _ _ _
theorem b01_f {P : Prop} (h : ¬ P) : b01 P = 0 := by unfold b01; exact @if_neg P (Classical.propDecidable P) h _ _ _
theorem b01_or {P : Prop} : b01 P = 0 ∨ b01 P = 1 := (Classical.em P).elim (fun h => Or.inr (b01_t h)) (fun h => Or.inl (b01_f h))
theorem b01_z {P : Prop} (h : b01 P = 0) : ¬ P := fun p => by rw [b01_t p] at h; exact absurd h (by decide)
theorem b01_n {P : Prop} (h : ¬ b01 P = 0) : P := Classical.byContradiction fun p => h (b01_f p)
theorem b01_iff {P P' : Prop} (h : P ↔ P') : b01 P = b01 P' := by rw [propext h]
abbrev wth (v a b : Int32) : Prop := a ≤ v ∧ v ≤ b
abbrev isT (A : Sta) (t : Int32) : Prop := ∃ j, j < sN A ∧ t = nI j
abbrev isO (A : Sta) (t : Int32) : Prop := ∃ j, j < (sO A).length ∧ t = nI j
theorem sb_hasTenant {q : Nat} {l : Lt} {A : Sta} {t : Int32} (hR : RepC h q l A) (k : Q (.inl (some (.int (b01 (isT A t))))) h) : WPx E mX4_hasTenant 0 [some (.ref q), some (.int t)] [] (0, 0) h Q :=
  sp_X4_hasTenant hR (fun j h1 h2 => by rw [b01_t ⟨j, h1, h2⟩] at k; exact k) (fun h1 => by rw [b01_f (fun ⟨j, a, b⟩ => h1 j a b)] at k; exact k)
theorem sb_hasOrder {q : Nat} {l : Lt} {A : Sta} {t : Int32} (hR : RepC h q l A) (k : Q (.inl (some (.int (b01 (isO A t))))) h) : WPx E mX4_hasOrder 0 [some (.ref q), some (.int t)] [] (0, 0) h Q :=
  sp_X4_hasOrder hR (fun j h1 h2 => by rw [b01_t ⟨j, h1, h2⟩] at k; exact k) (fun h1 => by rw [b01_f (fun ⟨j, a, b⟩ => h1 j a b)] at k; exact k)
theorem sb_canPlace {q : Nat} {l : Lt} {A : Sta} {kd t : Nat} {p z : Int32} (hR : RepC h q l A) (ht : t < sN A) (hkd : kd < 3) (k : Q (.inl (some (.int (b01 (canP A kd t p z))))) h) : WPx E mX4_canPlace 0 [some (.ref q), some (.int (nI kd)), some (.int (nI t)), some (.int p), some (.int z), none] [] (0, 0) h Q :=
  sp_X4_canPlace hR ht hkd (fun h1 => by rw [b01_t h1] at k; exact k) (fun h1 => by rw [b01_f h1] at k; exact k)
set_option maxHeartbeats 4000000 in
set_option maxRecDepth 100000 in
theorem sp_X6_isWithin {v a b : Int32}  (k : Q (.inl (some (.int (b01 (wth v a b))))) h) : WPx E mX6_isWithin 0 [some (.int v), some (.int a), some (.int b)] [] (0, 0) h Q := by
  refine wp_iload_n (M := mX6_isWithin) (pc := 0) dX6_isWithin_0 rfl ?_
  refine wp_iload_n (M := mX6_isWithin) (pc := 1) dX6_isWithin_1 rfl ?_
  refine wp_icmp_lt (M := mX6_isWithin) (pc := 2) (tgt := 14) dX6_isWithin_2 rfl (fun t2 => ?_) (fun f2 => ?_)
  · refine wp_iconst (M := mX6_isWithin) (pc := 14) (v := 0) dX6_isWithin_14 ci_0 ?_
    refine wp_zreturn (M := mX6_isWithin) (pc := 15) rfl (by decide) dX6_isWithin_15 ?_
    first
    | (rw [b01_f (fun c => absurd t2 (Int32.not_lt.mpr c.1))] at k; exact k)
    | (rw [b01_f (fun c => absurd t7 (Int32.not_lt.mpr c.2))] at k; exact k)
    | (rw [b01_t ⟨Int32.not_lt.mp f2, Int32.not_lt.mp f7⟩] at k; exact k)
    | fail "leaf"
  · refine wp_iload_n (M := mX6_isWithin) (pc := 5) dX6_isWithin_5 rfl ?_
    refine wp_iload_n (M := mX6_isWithin) (pc := 6) dX6_isWithin_6 rfl ?_
    refine wp_icmp_gt (M := mX6_isWithin) (pc := 7) (tgt := 14) dX6_isWithin_7 rfl (fun t7 => ?_) (fun f7 => ?_)
    · refine wp_iconst (M := mX6_isWithin) (pc := 14) (v := 0) dX6_isWithin_14 ci_0 ?_
      refine wp_zreturn (M := mX6_isWithin) (pc := 15) rfl (by decide) dX6_isWithin_15 ?_
      first
      | (rw [b01_f (fun c => absurd t2 (Int32.not_lt.mpr c.1))] at k; exact k)
      | (rw [b01_f (fun c => absurd t7 (Int32.not_lt.mpr c.2))] at k; exact k)
      | (rw [b01_t ⟨Int32.not_lt.mp f2, Int32.not_lt.mp f7⟩] at k; exact k)
      | fail "leaf"
    · refine wp_iconst (M := mX6_isWithin) (pc := 10) (v := 1) dX6_isWithin_10 ci_1 ?_
      refine wp_goto (M := mX6_isWithin) (pc := 11) (tgt := 15) dX6_isWithin_11 rfl ?_
      refine wp_zreturn (M := mX6_isWithin) (pc := 15) rfl (by decide) dX6_isWithin_15 ?_
      first
      | (rw [b01_f (fun c => absurd t2 (Int32.not_lt.mpr c.1))] at k; exact k)
      | (rw [b01_f (fun c => absurd t7 (Int32.not_lt.mpr c.2))] at k; exact k)
      | (rw [b01_t ⟨Int32.not_lt.mp f2, Int32.not_lt.mp f7⟩] at k; exact k)
      | fail "leaf"
set_option maxHeartbeats 4000000 in
set_option maxRecDepth 100000 in
theorem sp_X6_isTwoDigits {v : Int32}  (k : Q (.inl (some (.int (b01 (wth v 1 99))))) h) : WPx E mX6_isTwoDigits 0 [some (.int v)] [] (0, 0) h Q := by
  refine wp_iload_n (M := mX6_isTwoDigits) (pc := 0) dX6_isTwoDigits_0 rfl ?_
  refine wp_iconst (M := mX6_isTwoDigits) (pc := 1) (v := 1) dX6_isTwoDigits_1 ci_1 ?_
  refine wp_bipush (M := mX6_isTwoDigits) (pc := 2) (v := 99) dX6_isTwoDigits_2 cb_99 ?_
  refine so_S3 (M := mX6_isTwoDigits) (pc := 4) cs_X6_isTwoDigits_56 rfl rfl (LE rfl) (LE rfl) dX6_isTwoDigits_4 ?_
  refine sp_X6_isWithin ?_
  refine kI ?_
  refine wp_zreturn (M := mX6_isTwoDigits) (pc := 7) rfl b01_or dX6_isTwoDigits_7 ?_
  exact k
set_option maxHeartbeats 4000000 in
set_option maxRecDepth 100000 in
theorem sp_X6_isPlaceInQueue {v : Int32}  (k : Q (.inl (some (.int (b01 (wth v 0 7))))) h) : WPx E mX6_isPlaceInQueue 0 [some (.int v)] [] (0, 0) h Q := by
  refine wp_iload_n (M := mX6_isPlaceInQueue) (pc := 0) dX6_isPlaceInQueue_0 rfl ?_
  refine wp_iconst (M := mX6_isPlaceInQueue) (pc := 1) (v := 0) dX6_isPlaceInQueue_1 ci_0 ?_
  refine wp_bipush (M := mX6_isPlaceInQueue) (pc := 2) (v := 7) dX6_isPlaceInQueue_2 cb_7 ?_
  refine so_S3 (M := mX6_isPlaceInQueue) (pc := 4) cs_X6_isPlaceInQueue_56 rfl rfl (LE rfl) (LE rfl) dX6_isPlaceInQueue_4 ?_
  refine sp_X6_isWithin ?_
  refine kI ?_
  refine wp_zreturn (M := mX6_isPlaceInQueue) (pc := 7) rfl b01_or dX6_isPlaceInQueue_7 ?_
  exact k
set_option maxHeartbeats 4000000 in
set_option maxRecDepth 100000 in
theorem sp_X6_isSlot {v : Int32}  (k : Q (.inl (some (.int (b01 (wth v 0 1))))) h) : WPx E mX6_isSlot 0 [some (.int v)] [] (0, 0) h Q := by
  refine wp_iload_n (M := mX6_isSlot) (pc := 0) dX6_isSlot_0 rfl ?_
  refine wp_iconst (M := mX6_isSlot) (pc := 1) (v := 0) dX6_isSlot_1 ci_0 ?_
  refine wp_iconst (M := mX6_isSlot) (pc := 2) (v := 1) dX6_isSlot_2 ci_1 ?_
  refine so_S3 (M := mX6_isSlot) (pc := 3) cs_X6_isSlot_56 rfl rfl (LE rfl) (LE rfl) dX6_isSlot_3 ?_
  refine sp_X6_isWithin ?_
  refine kI ?_
  refine wp_zreturn (M := mX6_isSlot) (pc := 6) rfl b01_or dX6_isSlot_6 ?_
  exact k
/-- an order by numbers from outside: whether it may be placed -/
def mayP (A : Sta) (kd : Nat) (t p z : Int32) : Prop := ∃ j, j < sN A ∧ t = nI j ∧ wth p 1 99 ∧ wth z 1 99 ∧ canP A kd j p z
set_option maxHeartbeats 4000000 in
set_option maxRecDepth 100000 in
theorem sp_X4_tryPlace {q : Nat} {l : Lt} {A : Sta} {kd : Nat} {t p z : Int32} (hR : RepC h q l A) (hkd : kd < 3) (k1 : ∀ j, j < sN A → t = nI j → wth p 1 99 → wth z 1 99 → canP A kd j p z → ∀ h', RepC h' q l (placeA A kd j p z) → Fr (fun x => x = q) h h' → Q (.inl (some (.int 1))) h') (k0 : ¬ mayP A kd t p z → Q (.inl (some (.int 0))) h) : WPx E mX4_tryPlace 0 [some (.ref q), some (.int (nI kd)), some (.int t), some (.int p), some (.int z), none] [] (0, 0) h Q := by
  refine wp_aload_n (M := mX4_tryPlace) (pc := 0) dX4_tryPlace_0 rfl ?_
  refine wp_iload_n (M := mX4_tryPlace) (pc := 1) dX4_tryPlace_1 rfl ?_
  refine so_V1 (M := mX4_tryPlace) (pc := 2) cs_X4_tryPlace_139 rfl rfl (LE rfl) (LE rfl) dX4_tryPlace_2 hR.1.1.1 ?_
  refine sb_hasTenant hR ?_
  refine kI ?_
  refine wp_if_eq (M := mX4_tryPlace) (pc := 5) (tgt := 39) dX4_tryPlace_5 rfl (fun t5 => ?_) (fun f5 => ?_)
  · have hno := b01_z t5
    refine wp_iconst (M := mX4_tryPlace) (pc := 39) (v := 0) dX4_tryPlace_39 ci_0 ?_
    refine so_istore (M := mX4_tryPlace) (pc := 40) (lo' := [_, _, _, _, _, _]) dX4_tryPlace_40 (LE rfl) (LE rfl) (Or.inr rfl) rfl ?_
    refine wp_iload (M := mX4_tryPlace) (pc := 42) dX4_tryPlace_42 rfl ?_
    refine wp_if_eq (M := mX4_tryPlace) (pc := 44) (tgt := 57) dX4_tryPlace_44 rfl (fun t44 => ?_) (fun f44 => ?_)
    · first
      | exact absurd t44 (by decide)
      | (refine wp_iload (M := mX4_tryPlace) (pc := 57) dX4_tryPlace_57 rfl ?_
         refine wp_zreturn (M := mX4_tryPlace) (pc := 59) rfl (by decide) dX4_tryPlace_59 ?_
         first
         | exact k0 (fun ⟨j, a, b, c, d, e⟩ => hno ⟨j, a, b⟩)
         | exact k0 (fun ⟨j, a, b, c, d, e⟩ => hno c)
         | exact k0 (fun ⟨j, a, b, c, d, e⟩ => hno d)
         | exact k0 (fun ⟨j', a, b, c, d, e⟩ => by have := (i_eq (by have := hR.2.1.1.2; omega) (by have := hR.2.1.1.2; omega)).mp b; subst this; exact hno e)
         | fail "leaf")
      | fail "leaf"
    · first
      | exact absurd rfl f44
      | (refine wp_aload_n (M := mX4_tryPlace) (pc := 47) dX4_tryPlace_47 rfl ?_
         refine wp_iload_n (M := mX4_tryPlace) (pc := 48) dX4_tryPlace_48 rfl ?_
         refine wp_iload_n (M := mX4_tryPlace) (pc := 49) dX4_tryPlace_49 rfl ?_
         refine wp_iload_n (M := mX4_tryPlace) (pc := 50) dX4_tryPlace_50 rfl ?_
         refine wp_iload (M := mX4_tryPlace) (pc := 51) dX4_tryPlace_51 rfl ?_
         refine so_V4 (M := mX4_tryPlace) (pc := 53) cs_X4_tryPlace_150 rfl rfl (LE rfl) (LE rfl) dX4_tryPlace_53 hR.1.1.1 ?_
         refine sp_X4_place hR hj hkd hc.1 (fun h' a b => ?_)
         refine kI ?_
         refine wp_pop (M := mX4_tryPlace) (pc := 56) dX4_tryPlace_56 rfl ?_
         refine wp_iload (M := mX4_tryPlace) (pc := 57) dX4_tryPlace_57 rfl ?_
         refine wp_zreturn (M := mX4_tryPlace) (pc := 59) rfl (by decide) dX4_tryPlace_59 ?_
         exact k1 j hj rfl hp hz hc h' a b)
      | fail "leaf"
  · obtain ⟨j, hj, rfl⟩ := b01_n f5
    refine wp_iload_n (M := mX4_tryPlace) (pc := 8) dX4_tryPlace_8 rfl ?_
    refine so_SN1 (M := mX4_tryPlace) (pc := 9) cs_X4_tryPlace_143 rfl (LE rfl) (LE rfl) dX4_tryPlace_9 ?_
    refine sp_X6_isTwoDigits ?_
    refine kI1 ?_
    refine wp_if_eq (M := mX4_tryPlace) (pc := 12) (tgt := 39) dX4_tryPlace_12 rfl (fun t12 => ?_) (fun f12 => ?_)
    · have hno := b01_z t12
      refine wp_iconst (M := mX4_tryPlace) (pc := 39) (v := 0) dX4_tryPlace_39 ci_0 ?_
      refine so_istore (M := mX4_tryPlace) (pc := 40) (lo' := [_, _, _, _, _, _]) dX4_tryPlace_40 (LE rfl) (LE rfl) (Or.inr rfl) rfl ?_
      refine wp_iload (M := mX4_tryPlace) (pc := 42) dX4_tryPlace_42 rfl ?_
      refine wp_if_eq (M := mX4_tryPlace) (pc := 44) (tgt := 57) dX4_tryPlace_44 rfl (fun t44 => ?_) (fun f44 => ?_)
      · first
        | exact absurd t44 (by decide)
        | (refine wp_iload (M := mX4_tryPlace) (pc := 57) dX4_tryPlace_57 rfl ?_
           refine wp_zreturn (M := mX4_tryPlace) (pc := 59) rfl (by decide) dX4_tryPlace_59 ?_
           first
           | exact k0 (fun ⟨j, a, b, c, d, e⟩ => hno ⟨j, a, b⟩)
           | exact k0 (fun ⟨j, a, b, c, d, e⟩ => hno c)
           | exact k0 (fun ⟨j, a, b, c, d, e⟩ => hno d)
           | exact k0 (fun ⟨j', a, b, c, d, e⟩ => by have := (i_eq (by have := hR.2.1.1.2; omega) (by have := hR.2.1.1.2; omega)).mp b; subst this; exact hno e)
           | fail "leaf")
        | fail "leaf"
      · first
        | exact absurd rfl f44
        | (refine wp_aload_n (M := mX4_tryPlace) (pc := 47) dX4_tryPlace_47 rfl ?_
           refine wp_iload_n (M := mX4_tryPlace) (pc := 48) dX4_tryPlace_48 rfl ?_
           refine wp_iload_n (M := mX4_tryPlace) (pc := 49) dX4_tryPlace_49 rfl ?_
           refine wp_iload_n (M := mX4_tryPlace) (pc := 50) dX4_tryPlace_50 rfl ?_
           refine wp_iload (M := mX4_tryPlace) (pc := 51) dX4_tryPlace_51 rfl ?_
           refine so_V4 (M := mX4_tryPlace) (pc := 53) cs_X4_tryPlace_150 rfl rfl (LE rfl) (LE rfl) dX4_tryPlace_53 hR.1.1.1 ?_
           refine sp_X4_place hR hj hkd hc.1 (fun h' a b => ?_)
           refine kI ?_
           refine wp_pop (M := mX4_tryPlace) (pc := 56) dX4_tryPlace_56 rfl ?_
           refine wp_iload (M := mX4_tryPlace) (pc := 57) dX4_tryPlace_57 rfl ?_
           refine wp_zreturn (M := mX4_tryPlace) (pc := 59) rfl (by decide) dX4_tryPlace_59 ?_
           exact k1 j hj rfl hp hz hc h' a b)
        | fail "leaf"
    · have hp := b01_n f12
      refine wp_iload (M := mX4_tryPlace) (pc := 15) dX4_tryPlace_15 rfl ?_
      refine so_SN1 (M := mX4_tryPlace) (pc := 17) cs_X4_tryPlace_143 rfl (LE rfl) (LE rfl) dX4_tryPlace_17 ?_
      refine sp_X6_isTwoDigits ?_
      refine kI1 ?_
      refine wp_if_eq (M := mX4_tryPlace) (pc := 20) (tgt := 39) dX4_tryPlace_20 rfl (fun t20 => ?_) (fun f20 => ?_)
      · have hno := b01_z t20
        refine wp_iconst (M := mX4_tryPlace) (pc := 39) (v := 0) dX4_tryPlace_39 ci_0 ?_
        refine so_istore (M := mX4_tryPlace) (pc := 40) (lo' := [_, _, _, _, _, _]) dX4_tryPlace_40 (LE rfl) (LE rfl) (Or.inr rfl) rfl ?_
        refine wp_iload (M := mX4_tryPlace) (pc := 42) dX4_tryPlace_42 rfl ?_
        refine wp_if_eq (M := mX4_tryPlace) (pc := 44) (tgt := 57) dX4_tryPlace_44 rfl (fun t44 => ?_) (fun f44 => ?_)
        · first
          | exact absurd t44 (by decide)
          | (refine wp_iload (M := mX4_tryPlace) (pc := 57) dX4_tryPlace_57 rfl ?_
             refine wp_zreturn (M := mX4_tryPlace) (pc := 59) rfl (by decide) dX4_tryPlace_59 ?_
             first
             | exact k0 (fun ⟨j, a, b, c, d, e⟩ => hno ⟨j, a, b⟩)
             | exact k0 (fun ⟨j, a, b, c, d, e⟩ => hno c)
             | exact k0 (fun ⟨j, a, b, c, d, e⟩ => hno d)
             | exact k0 (fun ⟨j', a, b, c, d, e⟩ => by have := (i_eq (by have := hR.2.1.1.2; omega) (by have := hR.2.1.1.2; omega)).mp b; subst this; exact hno e)
             | fail "leaf")
          | fail "leaf"
        · first
          | exact absurd rfl f44
          | (refine wp_aload_n (M := mX4_tryPlace) (pc := 47) dX4_tryPlace_47 rfl ?_
             refine wp_iload_n (M := mX4_tryPlace) (pc := 48) dX4_tryPlace_48 rfl ?_
             refine wp_iload_n (M := mX4_tryPlace) (pc := 49) dX4_tryPlace_49 rfl ?_
             refine wp_iload_n (M := mX4_tryPlace) (pc := 50) dX4_tryPlace_50 rfl ?_
             refine wp_iload (M := mX4_tryPlace) (pc := 51) dX4_tryPlace_51 rfl ?_
             refine so_V4 (M := mX4_tryPlace) (pc := 53) cs_X4_tryPlace_150 rfl rfl (LE rfl) (LE rfl) dX4_tryPlace_53 hR.1.1.1 ?_
             refine sp_X4_place hR hj hkd hc.1 (fun h' a b => ?_)
             refine kI ?_
             refine wp_pop (M := mX4_tryPlace) (pc := 56) dX4_tryPlace_56 rfl ?_
             refine wp_iload (M := mX4_tryPlace) (pc := 57) dX4_tryPlace_57 rfl ?_
             refine wp_zreturn (M := mX4_tryPlace) (pc := 59) rfl (by decide) dX4_tryPlace_59 ?_
             exact k1 j hj rfl hp hz hc h' a b)
          | fail "leaf"
      · have hz := b01_n f20
        refine wp_aload_n (M := mX4_tryPlace) (pc := 23) dX4_tryPlace_23 rfl ?_
        refine wp_iload_n (M := mX4_tryPlace) (pc := 24) dX4_tryPlace_24 rfl ?_
        refine wp_iload_n (M := mX4_tryPlace) (pc := 25) dX4_tryPlace_25 rfl ?_
        refine wp_iload_n (M := mX4_tryPlace) (pc := 26) dX4_tryPlace_26 rfl ?_
        refine wp_iload (M := mX4_tryPlace) (pc := 27) dX4_tryPlace_27 rfl ?_
        refine so_V4 (M := mX4_tryPlace) (pc := 29) cs_X4_tryPlace_146 rfl rfl (LE rfl) (LE rfl) dX4_tryPlace_29 hR.1.1.1 ?_
        refine sb_canPlace hR hj hkd ?_
        refine kI ?_
        refine wp_if_eq (M := mX4_tryPlace) (pc := 32) (tgt := 39) dX4_tryPlace_32 rfl (fun t32 => ?_) (fun f32 => ?_)
        · have hno := b01_z t32
          refine wp_iconst (M := mX4_tryPlace) (pc := 39) (v := 0) dX4_tryPlace_39 ci_0 ?_
          refine so_istore (M := mX4_tryPlace) (pc := 40) (lo' := [_, _, _, _, _, _]) dX4_tryPlace_40 (LE rfl) (LE rfl) (Or.inr rfl) rfl ?_
          refine wp_iload (M := mX4_tryPlace) (pc := 42) dX4_tryPlace_42 rfl ?_
          refine wp_if_eq (M := mX4_tryPlace) (pc := 44) (tgt := 57) dX4_tryPlace_44 rfl (fun t44 => ?_) (fun f44 => ?_)
          · first
            | exact absurd t44 (by decide)
            | (refine wp_iload (M := mX4_tryPlace) (pc := 57) dX4_tryPlace_57 rfl ?_
               refine wp_zreturn (M := mX4_tryPlace) (pc := 59) rfl (by decide) dX4_tryPlace_59 ?_
               first
               | exact k0 (fun ⟨j, a, b, c, d, e⟩ => hno ⟨j, a, b⟩)
               | exact k0 (fun ⟨j, a, b, c, d, e⟩ => hno c)
               | exact k0 (fun ⟨j, a, b, c, d, e⟩ => hno d)
               | exact k0 (fun ⟨j', a, b, c, d, e⟩ => by have := (i_eq (by have := hR.2.1.1.2; omega) (by have := hR.2.1.1.2; omega)).mp b; subst this; exact hno e)
               | fail "leaf")
            | fail "leaf"
          · first
            | exact absurd rfl f44
            | (refine wp_aload_n (M := mX4_tryPlace) (pc := 47) dX4_tryPlace_47 rfl ?_
               refine wp_iload_n (M := mX4_tryPlace) (pc := 48) dX4_tryPlace_48 rfl ?_
               refine wp_iload_n (M := mX4_tryPlace) (pc := 49) dX4_tryPlace_49 rfl ?_
               refine wp_iload_n (M := mX4_tryPlace) (pc := 50) dX4_tryPlace_50 rfl ?_
               refine wp_iload (M := mX4_tryPlace) (pc := 51) dX4_tryPlace_51 rfl ?_
               refine so_V4 (M := mX4_tryPlace) (pc := 53) cs_X4_tryPlace_150 rfl rfl (LE rfl) (LE rfl) dX4_tryPlace_53 hR.1.1.1 ?_
               refine sp_X4_place hR hj hkd hc.1 (fun h' a b => ?_)
               refine kI ?_
               refine wp_pop (M := mX4_tryPlace) (pc := 56) dX4_tryPlace_56 rfl ?_
               refine wp_iload (M := mX4_tryPlace) (pc := 57) dX4_tryPlace_57 rfl ?_
               refine wp_zreturn (M := mX4_tryPlace) (pc := 59) rfl (by decide) dX4_tryPlace_59 ?_
               exact k1 j hj rfl hp hz hc h' a b)
            | fail "leaf"
        · have hc := b01_n f32
          refine wp_iconst (M := mX4_tryPlace) (pc := 35) (v := 1) dX4_tryPlace_35 ci_1 ?_
          refine wp_goto (M := mX4_tryPlace) (pc := 36) (tgt := 40) dX4_tryPlace_36 rfl ?_
          refine so_istore (M := mX4_tryPlace) (pc := 40) (lo' := [_, _, _, _, _, _]) dX4_tryPlace_40 (LE rfl) (LE rfl) (Or.inr rfl) rfl ?_
          refine wp_iload (M := mX4_tryPlace) (pc := 42) dX4_tryPlace_42 rfl ?_
          refine wp_if_eq (M := mX4_tryPlace) (pc := 44) (tgt := 57) dX4_tryPlace_44 rfl (fun t44 => ?_) (fun f44 => ?_)
          · first
            | exact absurd t44 (by decide)
            | (refine wp_iload (M := mX4_tryPlace) (pc := 57) dX4_tryPlace_57 rfl ?_
               refine wp_zreturn (M := mX4_tryPlace) (pc := 59) rfl (by decide) dX4_tryPlace_59 ?_
               first
               | exact k0 (fun ⟨j, a, b, c, d, e⟩ => hno ⟨j, a, b⟩)
               | exact k0 (fun ⟨j, a, b, c, d, e⟩ => hno c)
               | exact k0 (fun ⟨j, a, b, c, d, e⟩ => hno d)
               | exact k0 (fun ⟨j', a, b, c, d, e⟩ => by have := (i_eq (by have := hR.2.1.1.2; omega) (by have := hR.2.1.1.2; omega)).mp b; subst this; exact hno e)
               | fail "leaf")
            | fail "leaf"
          · first
            | exact absurd rfl f44
            | (refine wp_aload_n (M := mX4_tryPlace) (pc := 47) dX4_tryPlace_47 rfl ?_
               refine wp_iload_n (M := mX4_tryPlace) (pc := 48) dX4_tryPlace_48 rfl ?_
               refine wp_iload_n (M := mX4_tryPlace) (pc := 49) dX4_tryPlace_49 rfl ?_
               refine wp_iload_n (M := mX4_tryPlace) (pc := 50) dX4_tryPlace_50 rfl ?_
               refine wp_iload (M := mX4_tryPlace) (pc := 51) dX4_tryPlace_51 rfl ?_
               refine so_V4 (M := mX4_tryPlace) (pc := 53) cs_X4_tryPlace_150 rfl rfl (LE rfl) (LE rfl) dX4_tryPlace_53 hR.1.1.1 ?_
               refine sp_X4_place hR hj hkd hc.1 (fun h' a b => ?_)
               refine kI ?_
               refine wp_pop (M := mX4_tryPlace) (pc := 56) dX4_tryPlace_56 rfl ?_
               refine wp_iload (M := mX4_tryPlace) (pc := 57) dX4_tryPlace_57 rfl ?_
               refine wp_zreturn (M := mX4_tryPlace) (pc := 59) rfl (by decide) dX4_tryPlace_59 ?_
               exact k1 j hj rfl hp hz hc h' a b)
            | fail "leaf"
def mayQ (A : Sta) (t z : Int32) : Prop := ∃ j, j < sN A ∧ t = nI j ∧ wth z 1 99 ∧ (sT A j).2.1.length < 8
set_option maxHeartbeats 4000000 in
set_option maxRecDepth 100000 in
theorem sp_X4_tryQueue {q : Nat} {l : Lt} {A : Sta} {t z : Int32} (hR : RepC h q l A) (k1 : ∀ j, j < sN A → t = nI j → wth z 1 99 → (sT A j).2.1.length < 8 → ∀ h', RepC h' q l (pushA A j z) → Fr (fun x => x = q) h h' → Q (.inl (some (.int 1))) h') (k0 : ¬ mayQ A t z → Q (.inl (some (.int 0))) h) : WPx E mX4_tryQueue 0 [some (.ref q), some (.int t), some (.int z), none] [] (0, 0) h Q := by
  refine wp_aload_n (M := mX4_tryQueue) (pc := 0) dX4_tryQueue_0 rfl ?_
  refine wp_iload_n (M := mX4_tryQueue) (pc := 1) dX4_tryQueue_1 rfl ?_
  refine so_V1 (M := mX4_tryQueue) (pc := 2) cs_X4_tryQueue_139 rfl rfl (LE rfl) (LE rfl) dX4_tryQueue_2 hR.1.1.1 ?_
  refine sb_hasTenant hR ?_
  refine kI ?_
  refine wp_if_eq (M := mX4_tryQueue) (pc := 5) (tgt := 31) dX4_tryQueue_5 rfl (fun t5 => ?_) (fun f5 => ?_)
  · have hno := b01_z t5
    refine wp_iconst (M := mX4_tryQueue) (pc := 31) (v := 0) dX4_tryQueue_31 ci_0 ?_
    refine so_istore_n (M := mX4_tryQueue) (pc := 32) (lo' := [_, _, _, _]) dX4_tryQueue_32 (LE rfl) (LE rfl) (Or.inr rfl) rfl ?_
    refine wp_iload_n (M := mX4_tryQueue) (pc := 33) dX4_tryQueue_33 rfl ?_
    refine wp_if_eq (M := mX4_tryQueue) (pc := 34) (tgt := 48) dX4_tryQueue_34 rfl (fun t34 => ?_) (fun f34 => ?_)
    · first
      | exact absurd t34 (by decide)
      | (refine wp_iload_n (M := mX4_tryQueue) (pc := 48) dX4_tryQueue_48 rfl ?_
         refine wp_zreturn (M := mX4_tryQueue) (pc := 49) rfl (by decide) dX4_tryQueue_49 ?_
         first
         | exact k0 (fun ⟨j, a, b, c, d⟩ => hno ⟨j, a, b⟩)
         | exact k0 (fun ⟨j, a, b, c, d⟩ => hno c)
         | exact k0 (fun ⟨j', a, b, c, d⟩ => by have := (i_eq (by omega) (by omega)).mp b; subst this; exact hno d)
         | fail "leaf")
      | fail "leaf"
    · first
      | exact absurd rfl f34
      | (refine wp_aload_n (M := mX4_tryQueue) (pc := 37) dX4_tryQueue_37 rfl ?_
         refine wp_getR (M := mX4_tryQueue) (pc := 38) fa_X4_11 rfl dX4_tryQueue_38 (by first | exact hR.1.1.1 | exact kT | exact a2) (by first | exact rT | exact a1) ?_
         refine wp_iload_n (M := mX4_tryQueue) (pc := 41) dX4_tryQueue_41 rfl ?_
         refine wr_aaload (M := mX4_tryQueue) (pc := 42) dX4_tryQueue_42 (by first | exact hR.1.1.1 | exact kT | exact a2) (by decide) rfl (by omega) (by decide) (by first | exact rT | exact a1) ?_
         refine wp_iload_n (M := mX4_tryQueue) (pc := 43) dX4_tryQueue_43 rfl ?_
         refine so_V1 (M := mX4_tryQueue) (pc := 44) cs_X4_tryQueue_154 rfl rfl (LE rfl) (LE rfl) dX4_tryQueue_44 (by first | exact hR.1.1.1 | exact kT | exact a2) ?_
         refine sp_X5_queueMessage a2 a4 a5 (hR.neTM (by omega)) (hR.2.2.1 j hj).2.1 hq ?_
         refine kI ?_
         refine wp_pop (M := mX4_tryQueue) (pc := 47) dX4_tryQueue_47 rfl ?_
         refine wp_iload_n (M := mX4_tryQueue) (pc := 48) dX4_tryQueue_48 rfl ?_
         refine wp_zreturn (M := mX4_tryQueue) (pc := 49) rfl (by decide) dX4_tryQueue_49 ?_
         exact k1 j hj rfl hz hq _ (hR.sPush hj z hq) ((Fr.si (hR.ownM (by omega))).tr (Fr.si (hR.ownT (by omega)))))
      | fail "leaf"
  · obtain ⟨j, hj, rfl⟩ := b01_n f5
    obtain ⟨⟨kq, tq⟩, ⟨rT, kT, tT⟩, -, hLT, -⟩ := hR.1
    have n6 := hR.2.1.1.2
    obtain ⟨a1, ⟨a2, a3⟩, ⟨a4, a5, a6⟩, -⟩ := hLT j (by omega)
    refine wp_iload_n (M := mX4_tryQueue) (pc := 8) dX4_tryQueue_8 rfl ?_
    refine so_SN1 (M := mX4_tryQueue) (pc := 9) cs_X4_tryQueue_143 rfl (LE rfl) (LE rfl) dX4_tryQueue_9 ?_
    refine sp_X6_isTwoDigits ?_
    refine kI1 ?_
    refine wp_if_eq (M := mX4_tryQueue) (pc := 12) (tgt := 31) dX4_tryQueue_12 rfl (fun t12 => ?_) (fun f12 => ?_)
    · have hno := b01_z t12
      refine wp_iconst (M := mX4_tryQueue) (pc := 31) (v := 0) dX4_tryQueue_31 ci_0 ?_
      refine so_istore_n (M := mX4_tryQueue) (pc := 32) (lo' := [_, _, _, _]) dX4_tryQueue_32 (LE rfl) (LE rfl) (Or.inr rfl) rfl ?_
      refine wp_iload_n (M := mX4_tryQueue) (pc := 33) dX4_tryQueue_33 rfl ?_
      refine wp_if_eq (M := mX4_tryQueue) (pc := 34) (tgt := 48) dX4_tryQueue_34 rfl (fun t34 => ?_) (fun f34 => ?_)
      · first
        | exact absurd t34 (by decide)
        | (refine wp_iload_n (M := mX4_tryQueue) (pc := 48) dX4_tryQueue_48 rfl ?_
           refine wp_zreturn (M := mX4_tryQueue) (pc := 49) rfl (by decide) dX4_tryQueue_49 ?_
           first
           | exact k0 (fun ⟨j, a, b, c, d⟩ => hno ⟨j, a, b⟩)
           | exact k0 (fun ⟨j, a, b, c, d⟩ => hno c)
           | exact k0 (fun ⟨j', a, b, c, d⟩ => by have := (i_eq (by omega) (by omega)).mp b; subst this; exact hno d)
           | fail "leaf")
        | fail "leaf"
      · first
        | exact absurd rfl f34
        | (refine wp_aload_n (M := mX4_tryQueue) (pc := 37) dX4_tryQueue_37 rfl ?_
           refine wp_getR (M := mX4_tryQueue) (pc := 38) fa_X4_11 rfl dX4_tryQueue_38 (by first | exact hR.1.1.1 | exact kT | exact a2) (by first | exact rT | exact a1) ?_
           refine wp_iload_n (M := mX4_tryQueue) (pc := 41) dX4_tryQueue_41 rfl ?_
           refine wr_aaload (M := mX4_tryQueue) (pc := 42) dX4_tryQueue_42 (by first | exact hR.1.1.1 | exact kT | exact a2) (by decide) rfl (by omega) (by decide) (by first | exact rT | exact a1) ?_
           refine wp_iload_n (M := mX4_tryQueue) (pc := 43) dX4_tryQueue_43 rfl ?_
           refine so_V1 (M := mX4_tryQueue) (pc := 44) cs_X4_tryQueue_154 rfl rfl (LE rfl) (LE rfl) dX4_tryQueue_44 (by first | exact hR.1.1.1 | exact kT | exact a2) ?_
           refine sp_X5_queueMessage a2 a4 a5 (hR.neTM (by omega)) (hR.2.2.1 j hj).2.1 hq ?_
           refine kI ?_
           refine wp_pop (M := mX4_tryQueue) (pc := 47) dX4_tryQueue_47 rfl ?_
           refine wp_iload_n (M := mX4_tryQueue) (pc := 48) dX4_tryQueue_48 rfl ?_
           refine wp_zreturn (M := mX4_tryQueue) (pc := 49) rfl (by decide) dX4_tryQueue_49 ?_
           exact k1 j hj rfl hz hq _ (hR.sPush hj z hq) ((Fr.si (hR.ownM (by omega))).tr (Fr.si (hR.ownT (by omega)))))
        | fail "leaf"
    · have hz := b01_n f12
      refine wp_aload_n (M := mX4_tryQueue) (pc := 15) dX4_tryQueue_15 rfl ?_
      refine wp_getR (M := mX4_tryQueue) (pc := 16) fa_X4_11 rfl dX4_tryQueue_16 (by first | exact hR.1.1.1 | exact kT | exact a2) (by first | exact rT | exact a1) ?_
      refine wp_iload_n (M := mX4_tryQueue) (pc := 19) dX4_tryQueue_19 rfl ?_
      refine wr_aaload (M := mX4_tryQueue) (pc := 20) dX4_tryQueue_20 (by first | exact hR.1.1.1 | exact kT | exact a2) (by decide) rfl (by omega) (by decide) (by first | exact rT | exact a1) ?_
      refine so_V0 (M := mX4_tryQueue) (pc := 21) cs_X4_tryQueue_82 rfl rfl (LE rfl) (LE rfl) dX4_tryQueue_21 (by first | exact hR.1.1.1 | exact kT | exact a2) ?_
      refine sp_X5_isQueueFull a2 a4 a5 ?_
      refine kI ?_
      refine wp_if_ne (M := mX4_tryQueue) (pc := 24) (tgt := 31) dX4_tryQueue_24 rfl (fun t24 => ?_) (fun f24 => ?_)
      · have e7 := (hR.2.2.1 j hj).2.1
        rw [e7] at t24
        have hno : ¬ (sT A j).2.1.length < 8 := fun q9 => by
          rw [if_pos ((i_lt (by have := (hR.2.2.1 j hj).2.2.1; omega) (by decide)).mpr q9)] at t24
          exact t24 rfl
        refine wp_iconst (M := mX4_tryQueue) (pc := 31) (v := 0) dX4_tryQueue_31 ci_0 ?_
        refine so_istore_n (M := mX4_tryQueue) (pc := 32) (lo' := [_, _, _, _]) dX4_tryQueue_32 (LE rfl) (LE rfl) (Or.inr rfl) rfl ?_
        refine wp_iload_n (M := mX4_tryQueue) (pc := 33) dX4_tryQueue_33 rfl ?_
        refine wp_if_eq (M := mX4_tryQueue) (pc := 34) (tgt := 48) dX4_tryQueue_34 rfl (fun t34 => ?_) (fun f34 => ?_)
        · first
          | exact absurd t34 (by decide)
          | (refine wp_iload_n (M := mX4_tryQueue) (pc := 48) dX4_tryQueue_48 rfl ?_
             refine wp_zreturn (M := mX4_tryQueue) (pc := 49) rfl (by decide) dX4_tryQueue_49 ?_
             first
             | exact k0 (fun ⟨j, a, b, c, d⟩ => hno ⟨j, a, b⟩)
             | exact k0 (fun ⟨j, a, b, c, d⟩ => hno c)
             | exact k0 (fun ⟨j', a, b, c, d⟩ => by have := (i_eq (by omega) (by omega)).mp b; subst this; exact hno d)
             | fail "leaf")
          | fail "leaf"
        · first
          | exact absurd rfl f34
          | (refine wp_aload_n (M := mX4_tryQueue) (pc := 37) dX4_tryQueue_37 rfl ?_
             refine wp_getR (M := mX4_tryQueue) (pc := 38) fa_X4_11 rfl dX4_tryQueue_38 (by first | exact hR.1.1.1 | exact kT | exact a2) (by first | exact rT | exact a1) ?_
             refine wp_iload_n (M := mX4_tryQueue) (pc := 41) dX4_tryQueue_41 rfl ?_
             refine wr_aaload (M := mX4_tryQueue) (pc := 42) dX4_tryQueue_42 (by first | exact hR.1.1.1 | exact kT | exact a2) (by decide) rfl (by omega) (by decide) (by first | exact rT | exact a1) ?_
             refine wp_iload_n (M := mX4_tryQueue) (pc := 43) dX4_tryQueue_43 rfl ?_
             refine so_V1 (M := mX4_tryQueue) (pc := 44) cs_X4_tryQueue_154 rfl rfl (LE rfl) (LE rfl) dX4_tryQueue_44 (by first | exact hR.1.1.1 | exact kT | exact a2) ?_
             refine sp_X5_queueMessage a2 a4 a5 (hR.neTM (by omega)) (hR.2.2.1 j hj).2.1 hq ?_
             refine kI ?_
             refine wp_pop (M := mX4_tryQueue) (pc := 47) dX4_tryQueue_47 rfl ?_
             refine wp_iload_n (M := mX4_tryQueue) (pc := 48) dX4_tryQueue_48 rfl ?_
             refine wp_zreturn (M := mX4_tryQueue) (pc := 49) rfl (by decide) dX4_tryQueue_49 ?_
             exact k1 j hj rfl hz hq _ (hR.sPush hj z hq) ((Fr.si (hR.ownM (by omega))).tr (Fr.si (hR.ownT (by omega)))))
          | fail "leaf"
      · have e7 := (hR.2.2.1 j hj).2.1
        rw [e7] at f24
        have hq : (sT A j).2.1.length < 8 := by
          by_cases q9 : nI (sT A j).2.1.length < nI 8
          · exact (i_lt (by have := (hR.2.2.1 j hj).2.2.1; omega) (by decide)).mp q9
          · rw [if_neg q9] at f24; exact absurd f24 (by decide)
        refine wp_iconst (M := mX4_tryQueue) (pc := 27) (v := 1) dX4_tryQueue_27 ci_1 ?_
        refine wp_goto (M := mX4_tryQueue) (pc := 28) (tgt := 32) dX4_tryQueue_28 rfl ?_
        refine so_istore_n (M := mX4_tryQueue) (pc := 32) (lo' := [_, _, _, _]) dX4_tryQueue_32 (LE rfl) (LE rfl) (Or.inr rfl) rfl ?_
        refine wp_iload_n (M := mX4_tryQueue) (pc := 33) dX4_tryQueue_33 rfl ?_
        refine wp_if_eq (M := mX4_tryQueue) (pc := 34) (tgt := 48) dX4_tryQueue_34 rfl (fun t34 => ?_) (fun f34 => ?_)
        · first
          | exact absurd t34 (by decide)
          | (refine wp_iload_n (M := mX4_tryQueue) (pc := 48) dX4_tryQueue_48 rfl ?_
             refine wp_zreturn (M := mX4_tryQueue) (pc := 49) rfl (by decide) dX4_tryQueue_49 ?_
             first
             | exact k0 (fun ⟨j, a, b, c, d⟩ => hno ⟨j, a, b⟩)
             | exact k0 (fun ⟨j, a, b, c, d⟩ => hno c)
             | exact k0 (fun ⟨j', a, b, c, d⟩ => by have := (i_eq (by omega) (by omega)).mp b; subst this; exact hno d)
             | fail "leaf")
          | fail "leaf"
        · first
          | exact absurd rfl f34
          | (refine wp_aload_n (M := mX4_tryQueue) (pc := 37) dX4_tryQueue_37 rfl ?_
             refine wp_getR (M := mX4_tryQueue) (pc := 38) fa_X4_11 rfl dX4_tryQueue_38 (by first | exact hR.1.1.1 | exact kT | exact a2) (by first | exact rT | exact a1) ?_
             refine wp_iload_n (M := mX4_tryQueue) (pc := 41) dX4_tryQueue_41 rfl ?_
             refine wr_aaload (M := mX4_tryQueue) (pc := 42) dX4_tryQueue_42 (by first | exact hR.1.1.1 | exact kT | exact a2) (by decide) rfl (by omega) (by decide) (by first | exact rT | exact a1) ?_
             refine wp_iload_n (M := mX4_tryQueue) (pc := 43) dX4_tryQueue_43 rfl ?_
             refine so_V1 (M := mX4_tryQueue) (pc := 44) cs_X4_tryQueue_154 rfl rfl (LE rfl) (LE rfl) dX4_tryQueue_44 (by first | exact hR.1.1.1 | exact kT | exact a2) ?_
             refine sp_X5_queueMessage a2 a4 a5 (hR.neTM (by omega)) (hR.2.2.1 j hj).2.1 hq ?_
             refine kI ?_
             refine wp_pop (M := mX4_tryQueue) (pc := 47) dX4_tryQueue_47 rfl ?_
             refine wp_iload_n (M := mX4_tryQueue) (pc := 48) dX4_tryQueue_48 rfl ?_
             refine wp_zreturn (M := mX4_tryQueue) (pc := 49) rfl (by decide) dX4_tryQueue_49 ?_
             exact k1 j hj rfl hz hq _ (hR.sPush hj z hq) ((Fr.si (hR.ownM (by omega))).tr (Fr.si (hR.ownT (by omega)))))
          | fail "leaf"
end SP
