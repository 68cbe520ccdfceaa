/-! how both sides begin -/
def zch : Nat → Int32 := upd (upd (upd (upd (upd (upd (upd (upd (upd (upd (upd (upd (upd (upd (upd (upd (fun _ => 0) 0 (0 : Int32)) 1 (1 : Int32)) 2 (2 : Int32)) 3 (3 : Int32)) 4 (4 : Int32)) 5 (5 : Int32)) 6 (6 : Int32)) 7 (7 : Int32)) 8 (8 : Int32)) 9 (9 : Int32)) 10 (10 : Int32)) 11 (11 : Int32)) 12 (-1 : Int32)) 13 (-1 : Int32)) 14 (-1 : Int32)) 15 (-1 : Int32)
def zC0 : zz_S := (fun _ => 0, fun a => bif Nat.beq a 1 then zch else bif Nat.beq a 11 then fun _ => -1 else fun _ => 0, fun _ => none, fun _ _ => 0)
def zM0 : zz_S := (fun _ => 0, fun a => bif Nat.beq a 1 then zch else fun _ => 0, fun _ => none, fun _ _ => 0)
def zm0 : zM := (fun _ => 0, fun _ => 0, fun _ => 0, fun _ => 0, zch, fun _ => 0, 0, 0)
theorem zC0_e : zC0 = zC zC0 zm0 0 (fun _ => 0) := by
  refine zS_ext (fun j => ?_) (fun a i => congrFun ?_ i) (fun _ => rfl) (fun _ _ => rfl)
  · show (0 : Int32) = (bif Nat.beq j 0 then nI 0 else bif Nat.beq j 1 then nI 0 else bif Nat.beq j 13 then nI 0 else 0)
    cases Nat.beq j 0 <;> cases Nat.beq j 1 <;> cases Nat.beq j 13 <;> rfl
  · cases e0 : Nat.beq a 0 with
    | true => rw [zb_t e0]; rfl
    | false => cases e1 : Nat.beq a 1 with
      | true => rw [zb_t e1]; rfl
      | false => cases e2 : Nat.beq a 2 with
        | true => rw [zb_t e2]; rfl
        | false => cases e3 : Nat.beq a 3 with
          | true => rw [zb_t e3]; rfl
          | false => cases e4 : Nat.beq a 4 with
            | true => rw [zb_t e4]; rfl
            | false => cases e5 : Nat.beq a 5 with
              | true => rw [zb_t e5]; rfl
              | false => cases e6 : Nat.beq a 6 with
                | true => rw [zb_t e6]; rfl
                | false =>
                  show _ = (bif Nat.beq a 0 then _ else bif Nat.beq a 3 then _ else bif Nat.beq a 4 then _ else bif Nat.beq a 5 then _ else bif Nat.beq a 1 then _ else bif Nat.beq a 2 then _ else bif Nat.beq a 6 then _ else _)
                  rw [e0, e3, e4, e5, e1, e2, e6]
                  rfl
theorem zM0_e : zM0 = zR zM0 zm0 0 (fun _ => 0) := by
  refine zS_ext (fun j => ?_) (fun a i => congrFun ?_ i) (fun _ => rfl) (fun _ _ => rfl)
  · show (0 : Int32) = (bif Nat.beq j 1 then nI 0 else bif Nat.beq j 2 then nI 0 else bif Nat.beq j 4 then nI 0 else 0)
    cases Nat.beq j 1 <;> cases Nat.beq j 2 <;> cases Nat.beq j 4 <;> rfl
  · cases e1 : Nat.beq a 1 with
    | true => rw [zb_t e1]; rfl
    | false => cases e2 : Nat.beq a 2 with
      | true => rw [zb_t e2]; rfl
      | false => cases e3 : Nat.beq a 3 with
        | true => rw [zb_t e3]; rfl
        | false => cases e4 : Nat.beq a 4 with
          | true => rw [zb_t e4]; rfl
          | false => cases e5 : Nat.beq a 14 with
            | true => rw [zb_t e5]; rfl
            | false => cases e6 : Nat.beq a 15 with
              | true => rw [zb_t e6]; rfl
              | false => cases e7 : Nat.beq a 16 with
                | true => rw [zb_t e7]; rfl
                | false =>
                  show _ = (bif Nat.beq a 3 then _ else bif Nat.beq a 2 then _ else bif Nat.beq a 14 then _ else bif Nat.beq a 15 then _ else bif Nat.beq a 1 then _ else bif Nat.beq a 4 then _ else bif Nat.beq a 16 then _ else _)
                  rw [e3, e2, e5, e6, e1, e4, e7]
                  rfl
theorem zch_v : ∀ p, p < 16 → zch p = if p < 12 then nI p else -1 := by decide +kernel
theorem zm0_ok : zm_ok zm0 := by
  refine ⟨fun i => ⟨0, by decide, rfl⟩, fun i => ⟨0, by decide, rfl⟩, fun i => ⟨0, by decide, rfl⟩, fun i => ⟨0, by decide, rfl⟩, fun p hp => ?_, fun i => Or.inl rfl, (by decide : (0 : Nat) < 16)⟩
  show zch p = -1 ∨ ∃ k, k < 12 ∧ zch p = nI k
  rw [zch_v p hp]
  by_cases h : p < 12
  · rw [if_pos h]; exact Or.inr ⟨p, h, rfl⟩
  · rw [if_neg h]; exact Or.inl rfl
theorem zT0 : zTx 0 6 zC0 zM0 := by
  refine ⟨⟨by decide, by decide, by decide, by decide⟩, fun u hu _ => ⟨⟨0, by decide, rfl, rfl, fun _ => ⟨rfl, rfl, rfl⟩, fun z => absurd rfl z, fun z => by omega, fun _ => rfl, fun z => by omega, fun _ => rfl, fun z => by omega, fun _ => rfl⟩, fun l => ?_⟩⟩
  exfalso
  rcases l with h | h | h
  · exact absurd (show (0 : Int32) = 1 from h) (by decide)
  · exact absurd (show (0 : Int32) = 2 from h) (by decide)
  · exact absurd (show (0 : Int32) = 3 from h) (by decide)
theorem zI_start : zI 0 zC0 zM0 := ⟨zC0, zM0, zm0, 0, fun _ => 0, 0, fun _ => 0, zC0_e, zM0_e, zm0_ok, zT0⟩
