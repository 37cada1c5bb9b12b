/-! OPERATIONS: as, paneIs, count -/
def isU (k w : Nat) : Int32 := ([1, 0, 0, 0, 0, 0, 0, 1, 1, 0, 0, 0, 0, 0, 1, 0, 1, 0, 0, 0, 0, 1, 0, 0, 1, 0, 0, 0, 1, 1, 0, 0, 1, 0, 0, 1, 0, 1, 0, 0, 1, 0, 1, 0, 0, 0, 0, 0, 1] : List Int32).getD (7 * k + w) 0
set_option maxRecDepth 100000 in
set_option maxHeartbeats 4000000 in
theorem c_isUnder {L : Nat} {xs : Nat → Int32} {d : Nat} {M : xM} {T : Nat} {k w : Nat} (hk : k < 7) (hw : w < 7) : Rn (roS L xs) (d + 1) M_X7_isUnder 0 [some (.int (nI k)), some (.int (nI w)), none, none] [] (mk M T) (fun r h => r = some (.int (isU k w)) ∧ h = mk M T) := by
  match k, w, hk, hw with
  | 0, 0, _, _ => exact R_ret 200 (v := some (.int (isU 0 0))) (h' := mk M T) (fun _ => rfl) ⟨rfl, rfl⟩
  | 0, 1, _, _ => exact R_ret 200 (v := some (.int (isU 0 1))) (h' := mk M T) (fun _ => rfl) ⟨rfl, rfl⟩
  | 0, 2, _, _ => exact R_ret 200 (v := some (.int (isU 0 2))) (h' := mk M T) (fun _ => rfl) ⟨rfl, rfl⟩
  | 0, 3, _, _ => exact R_ret 200 (v := some (.int (isU 0 3))) (h' := mk M T) (fun _ => rfl) ⟨rfl, rfl⟩
  | 0, 4, _, _ => exact R_ret 200 (v := some (.int (isU 0 4))) (h' := mk M T) (fun _ => rfl) ⟨rfl, rfl⟩
  | 0, 5, _, _ => exact R_ret 200 (v := some (.int (isU 0 5))) (h' := mk M T) (fun _ => rfl) ⟨rfl, rfl⟩
  | 0, 6, _, _ => exact R_ret 200 (v := some (.int (isU 0 6))) (h' := mk M T) (fun _ => rfl) ⟨rfl, rfl⟩
  | 1, 0, _, _ => exact R_ret 200 (v := some (.int (isU 1 0))) (h' := mk M T) (fun _ => rfl) ⟨rfl, rfl⟩
  | 1, 1, _, _ => exact R_ret 200 (v := some (.int (isU 1 1))) (h' := mk M T) (fun _ => rfl) ⟨rfl, rfl⟩
  | 1, 2, _, _ => exact R_ret 200 (v := some (.int (isU 1 2))) (h' := mk M T) (fun _ => rfl) ⟨rfl, rfl⟩
  | 1, 3, _, _ => exact R_ret 200 (v := some (.int (isU 1 3))) (h' := mk M T) (fun _ => rfl) ⟨rfl, rfl⟩
  | 1, 4, _, _ => exact R_ret 200 (v := some (.int (isU 1 4))) (h' := mk M T) (fun _ => rfl) ⟨rfl, rfl⟩
  | 1, 5, _, _ => exact R_ret 200 (v := some (.int (isU 1 5))) (h' := mk M T) (fun _ => rfl) ⟨rfl, rfl⟩
  | 1, 6, _, _ => exact R_ret 200 (v := some (.int (isU 1 6))) (h' := mk M T) (fun _ => rfl) ⟨rfl, rfl⟩
  | 2, 0, _, _ => exact R_ret 200 (v := some (.int (isU 2 0))) (h' := mk M T) (fun _ => rfl) ⟨rfl, rfl⟩
  | 2, 1, _, _ => exact R_ret 200 (v := some (.int (isU 2 1))) (h' := mk M T) (fun _ => rfl) ⟨rfl, rfl⟩
  | 2, 2, _, _ => exact R_ret 200 (v := some (.int (isU 2 2))) (h' := mk M T) (fun _ => rfl) ⟨rfl, rfl⟩
  | 2, 3, _, _ => exact R_ret 200 (v := some (.int (isU 2 3))) (h' := mk M T) (fun _ => rfl) ⟨rfl, rfl⟩
  | 2, 4, _, _ => exact R_ret 200 (v := some (.int (isU 2 4))) (h' := mk M T) (fun _ => rfl) ⟨rfl, rfl⟩
  | 2, 5, _, _ => exact R_ret 200 (v := some (.int (isU 2 5))) (h' := mk M T) (fun _ => rfl) ⟨rfl, rfl⟩
  | 2, 6, _, _ => exact R_ret 200 (v := some (.int (isU 2 6))) (h' := mk M T) (fun _ => rfl) ⟨rfl, rfl⟩
  | 3, 0, _, _ => exact R_ret 200 (v := some (.int (isU 3 0))) (h' := mk M T) (fun _ => rfl) ⟨rfl, rfl⟩
  | 3, 1, _, _ => exact R_ret 200 (v := some (.int (isU 3 1))) (h' := mk M T) (fun _ => rfl) ⟨rfl, rfl⟩
  | 3, 2, _, _ => exact R_ret 200 (v := some (.int (isU 3 2))) (h' := mk M T) (fun _ => rfl) ⟨rfl, rfl⟩
  | 3, 3, _, _ => exact R_ret 200 (v := some (.int (isU 3 3))) (h' := mk M T) (fun _ => rfl) ⟨rfl, rfl⟩
  | 3, 4, _, _ => exact R_ret 200 (v := some (.int (isU 3 4))) (h' := mk M T) (fun _ => rfl) ⟨rfl, rfl⟩
  | 3, 5, _, _ => exact R_ret 200 (v := some (.int (isU 3 5))) (h' := mk M T) (fun _ => rfl) ⟨rfl, rfl⟩
  | 3, 6, _, _ => exact R_ret 200 (v := some (.int (isU 3 6))) (h' := mk M T) (fun _ => rfl) ⟨rfl, rfl⟩
  | 4, 0, _, _ => exact R_ret 200 (v := some (.int (isU 4 0))) (h' := mk M T) (fun _ => rfl) ⟨rfl, rfl⟩
  | 4, 1, _, _ => exact R_ret 200 (v := some (.int (isU 4 1))) (h' := mk M T) (fun _ => rfl) ⟨rfl, rfl⟩
  | 4, 2, _, _ => exact R_ret 200 (v := some (.int (isU 4 2))) (h' := mk M T) (fun _ => rfl) ⟨rfl, rfl⟩
  | 4, 3, _, _ => exact R_ret 200 (v := some (.int (isU 4 3))) (h' := mk M T) (fun _ => rfl) ⟨rfl, rfl⟩
  | 4, 4, _, _ => exact R_ret 200 (v := some (.int (isU 4 4))) (h' := mk M T) (fun _ => rfl) ⟨rfl, rfl⟩
  | 4, 5, _, _ => exact R_ret 200 (v := some (.int (isU 4 5))) (h' := mk M T) (fun _ => rfl) ⟨rfl, rfl⟩
  | 4, 6, _, _ => exact R_ret 200 (v := some (.int (isU 4 6))) (h' := mk M T) (fun _ => rfl) ⟨rfl, rfl⟩
  | 5, 0, _, _ => exact R_ret 200 (v := some (.int (isU 5 0))) (h' := mk M T) (fun _ => rfl) ⟨rfl, rfl⟩
  | 5, 1, _, _ => exact R_ret 200 (v := some (.int (isU 5 1))) (h' := mk M T) (fun _ => rfl) ⟨rfl, rfl⟩
  | 5, 2, _, _ => exact R_ret 200 (v := some (.int (isU 5 2))) (h' := mk M T) (fun _ => rfl) ⟨rfl, rfl⟩
  | 5, 3, _, _ => exact R_ret 200 (v := some (.int (isU 5 3))) (h' := mk M T) (fun _ => rfl) ⟨rfl, rfl⟩
  | 5, 4, _, _ => exact R_ret 200 (v := some (.int (isU 5 4))) (h' := mk M T) (fun _ => rfl) ⟨rfl, rfl⟩
  | 5, 5, _, _ => exact R_ret 200 (v := some (.int (isU 5 5))) (h' := mk M T) (fun _ => rfl) ⟨rfl, rfl⟩
  | 5, 6, _, _ => exact R_ret 200 (v := some (.int (isU 5 6))) (h' := mk M T) (fun _ => rfl) ⟨rfl, rfl⟩
  | 6, 0, _, _ => exact R_ret 200 (v := some (.int (isU 6 0))) (h' := mk M T) (fun _ => rfl) ⟨rfl, rfl⟩
  | 6, 1, _, _ => exact R_ret 200 (v := some (.int (isU 6 1))) (h' := mk M T) (fun _ => rfl) ⟨rfl, rfl⟩
  | 6, 2, _, _ => exact R_ret 200 (v := some (.int (isU 6 2))) (h' := mk M T) (fun _ => rfl) ⟨rfl, rfl⟩
  | 6, 3, _, _ => exact R_ret 200 (v := some (.int (isU 6 3))) (h' := mk M T) (fun _ => rfl) ⟨rfl, rfl⟩
  | 6, 4, _, _ => exact R_ret 200 (v := some (.int (isU 6 4))) (h' := mk M T) (fun _ => rfl) ⟨rfl, rfl⟩
  | 6, 5, _, _ => exact R_ret 200 (v := some (.int (isU 6 5))) (h' := mk M T) (fun _ => rfl) ⟨rfl, rfl⟩
  | 6, 6, _, _ => exact R_ret 200 (v := some (.int (isU 6 6))) (h' := mk M T) (fun _ => rfl) ⟨rfl, rfl⟩

