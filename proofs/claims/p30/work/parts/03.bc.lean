/-! ===== the frame rule ===== -/
/-- the memory without some of its cells -/
def zhide (S : Nat → Bool) (M : zM) : zM := (zN M, (fun k => if S k = true then (99, 0) else zK M k), zI M, zJ M, zP M)
section ZFRAME
variable {X : zX} {l : Launch} {d kc ks y : Nat} {M : zM} {S : Nat → Bool}
end ZFRAME
