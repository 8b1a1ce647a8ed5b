def sc0 : Int → Int := fun j => if j = 8 then 10 else if j = 10 then 40 else 0
def rl0 : Int → Int := fun j => if j = 4 then 1 else 0
def i0L (k : Nat) : Int → Int := match k with
  | 1 => sc0 | 17 => sc0 | 56 => sc0 | 72 => sc0
  | 8 => rl0 | 11 => rl0 | 14 => rl0 | 24 => rl0 | 27 => rl0 | 30 => rl0 | 63 => rl0 | 66 => rl0 | 69 => rl0 | 79 => rl0 | 82 => rl0 | 85 => rl0
  | 88 => fun j => if j = 19 then -1 else if j = 20 then -1 else 0
  | 89 => updA (updA (fun _ => 0) 53 10) 55 40
  | _ => fun _ => 0
def σ0 : SG := (i0L, fun _ _ => 0)
set_option maxRecDepth 1000000 in
set_option maxHeartbeats 40000000 in
theorem gm_init (X : AX) (n : Nat) : run X (n + 300) 9 mX10_init 0 [some (rv 0), none] [] [.inr (10, dfl 10)] 0 0 = some (none, (mem σ0).take 88) := by
  rfl
