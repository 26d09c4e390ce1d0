theorem up_id {α : Type} (f : Nat → α) (i : Nat) : va_up f i (f i) = f := by
  funext j
  by_cases h : j = i
  · rw [h, va_up_self]
  · exact va_up_ne _ _ h
/-- a scene: district, hour, state, column, level, time, hurt; a history: first, many, districts, hours, rows; a tray: sort, many, numbers; a district; the class between two calls -/
abbrev ScT : Type := Nat × Int32 × (Nat → Int32) × (Nat → Int32) × (Nat → Int32) × (Nat → Int32) × (Nat → Int32)
abbrev HiT : Type := Int32 × Int32 × (Nat → Nat) × (Nat → Int32) × (Nat → Nat → Int32)
abbrev TrT : Type := Int32 × Int32 × (Nat → Int64)
abbrev DiT : Type := Int32 × Int32 × Int32 × Int32 × Int32 × (Nat → Int32) × (Nat → Int32) × (Nat → Int32) × Option (Nat × (Nat → Int32)) × Option (Nat × (Nat → Int32))
abbrev CSt : Type := (Int32 × (Nat → Int32) × Int32 × Int32) × ScT × HiT × (Nat → Option (ScT × HiT)) × (Nat → TrT) × (Nat → DiT)
def FC (cy : Nat → ClassId) (nf_ : Nat) (B : va_W) : Prop := ∃ (noA_ : Nat) (from_ : Int32) (events_ : Int32) (nwn_ : Nat) (nfl_ : Nat) (fwn_ : Nat → Int32) (ffl_ : Nat → Int32) (ndA_ : Nat) (hourA_ : Int32) (nsA_ : Nat) (ncA_ : Nat) (nlA_ : Nat) (ntA_ : Nat) (nhA_ : Nat) (fallenA_ : Int32) (fsA_ : Nat → Int32) (fcA_ : Nat → Int32) (flA_ : Nat → Int32) (ftA_ : Nat → Int32) (fhA_ : Nat → Int32), B = [(nf_, .inr (1, [.ref noA_, .int from_, .int events_, .ref nwn_, .ref nfl_])), (nwn_, .inl (cy 0, 8, .inl (fwn_))), (nfl_, .inl (cy 0, 8, .inl (ffl_))), (noA_, .inr (6, [.ref ndA_, .int hourA_, .ref nsA_, .ref ncA_, .ref nlA_, .ref ntA_, .ref nhA_, .int fallenA_])), (nsA_, .inl (cy 0, 8, .inl (fsA_))), (ncA_, .inl (cy 0, 8, .inl (fcA_))), (nlA_, .inl (cy 0, 8, .inl (flA_))), (ntA_, .inl (cy 0, 8, .inl (ftA_))), (nhA_, .inl (cy 0, 4, .inl (fhA_)))] ∧ rg (0) (8) events_
def WY (cy : Nat → ClassId) (ny_ : Nat) (B : va_W) : Prop := ∃ (all_ : Int32) (nya_ : Nat) (nyb_ : Nat) (nyc_ : Nat) (nyd_ : Nat) (nye_ : Nat) (fya_ : Nat → Int32) (fyb_ : Nat → Int32) (fyc_ : Nat → Int32) (fyd_ : Nat → Int64) (fye_ : Nat → Int64), B = [(ny_, .inr (9, [.int all_, .ref nya_, .ref nyb_, .ref nyc_, .ref nyd_, .ref nye_])), (nya_, .inl (cy 0, 61, .inl (fya_))), (nyb_, .inl (cy 0, 61, .inl (fyb_))), (nyc_, .inl (cy 0, 61, .inl (fyc_))), (nyd_, .inl (cy 2, 6, .inr (.inl (fyd_)))), (nye_, .inl (cy 2, 6, .inr (.inl (fye_))))]
def RD (cy : Nat → ClassId) (nrd_ : Nat) (B : va_W) : Prop := ∃ (noR_ : Nat) (fault_ : Int32) (place_ : Int32) (ndO_ : Nat) (ntk_ : Nat) (ncd_ : Nat) (codeLength_ : Int32) (ofHangs_ : Int32) (fcd_ : Nat → Int32) (nk_ : Nat) (nkp_ : Nat) (tmany_ : Int32) (cur_ : Int32) (kind_ : Int32) (tstart_ : Int32) (fk_ : Nat → Int32) (fkp_ : Nat → Int32) (ndS_ : Nat) (hourR_ : Int32) (nsR_ : Nat) (ncR_ : Nat) (nlR_ : Nat) (ntR_ : Nat) (nhR_ : Nat) (fallenR_ : Int32) (fsR_ : Nat → Int32) (fcR_ : Nat → Int32) (flR_ : Nat → Int32) (ftR_ : Nat → Int32) (fhR_ : Nat → Int32), B = [(nrd_, .inr (5, [.ref noR_, .int fault_, .int place_, .ref ndO_, .ref ntk_, .ref ncd_, .int codeLength_, .int ofHangs_])), (ncd_, .inl (cy 0, 900, .inl (fcd_))), (ntk_, .inr (7, [.ref nk_, .ref nkp_, .int tmany_, .int cur_, .int kind_, .int tstart_])), (nk_, .inl (cy 0, 901, .inl (fk_))), (nkp_, .inl (cy 0, 901, .inl (fkp_))), (noR_, .inr (6, [.ref ndS_, .int hourR_, .ref nsR_, .ref ncR_, .ref nlR_, .ref ntR_, .ref nhR_, .int fallenR_])), (nsR_, .inl (cy 0, 8, .inl (fsR_))), (ncR_, .inl (cy 0, 8, .inl (fcR_))), (nlR_, .inl (cy 0, 8, .inl (flR_))), (ntR_, .inl (cy 0, 8, .inl (ftR_))), (nhR_, .inl (cy 0, 4, .inl (fhR_)))] ∧ rg (0) (901) tmany_ ∧ rg (0) (900) cur_ ∧ rg (0) (4) fault_ ∧ rg (0) (900) codeLength_ ∧ rg (0) (1) ofHangs_
def HI (cy : Nat → ClassId) (pd : Nat → Prop) (nhi_ : Nat) (v : HiT) (B : va_W) : Prop := ∃ (nhx_ : Nat) (first_ : Int32) (hmany_ : Int32) (kH_ : Nat → Nat) (hd_ : Nat → Nat) (hh_ : Nat → Int32) (hf_ : Nat → Int32) (ha_ : Nat → Nat → Int32), v = (first_, hmany_, hd_, hh_, ha_) ∧ B = [(nhi_, .inr (2, [.ref nhx_, .int first_, .int hmany_])), (nhx_, .inl (cy 4, 10, .inr (.inr (.inr (.inr (va_up (va_up (va_up (va_up (va_up (va_up (va_up (va_up (va_up (va_up (fun _ => none) (0 : Int32).toNatClampNeg (some (kH_ 0))) (1 : Int32).toNatClampNeg (some (kH_ 6))) (2 : Int32).toNatClampNeg (some (kH_ 12))) (3 : Int32).toNatClampNeg (some (kH_ 18))) (4 : Int32).toNatClampNeg (some (kH_ 24))) (5 : Int32).toNatClampNeg (some (kH_ 30))) (6 : Int32).toNatClampNeg (some (kH_ 36))) (7 : Int32).toNatClampNeg (some (kH_ 42))) (8 : Int32).toNatClampNeg (some (kH_ 48))) (9 : Int32).toNatClampNeg (some (kH_ 54)))))))), ((kH_ 0), .inr (6, [.ref (hd_ 0), .int (hh_ 0), .ref (kH_ 1), .ref (kH_ 2), .ref (kH_ 3), .ref (kH_ 4), .ref (kH_ 5), .int (hf_ 0)])), ((kH_ 1), .inl (cy 0, 8, .inl (ha_ 0))), ((kH_ 2), .inl (cy 0, 8, .inl (ha_ 1))), ((kH_ 3), .inl (cy 0, 8, .inl (ha_ 2))), ((kH_ 4), .inl (cy 0, 8, .inl (ha_ 3))), ((kH_ 5), .inl (cy 0, 4, .inl (ha_ 4))), ((kH_ 6), .inr (6, [.ref (hd_ 1), .int (hh_ 1), .ref (kH_ 7), .ref (kH_ 8), .ref (kH_ 9), .ref (kH_ 10), .ref (kH_ 11), .int (hf_ 1)])), ((kH_ 7), .inl (cy 0, 8, .inl (ha_ 5))), ((kH_ 8), .inl (cy 0, 8, .inl (ha_ 6))), ((kH_ 9), .inl (cy 0, 8, .inl (ha_ 7))), ((kH_ 10), .inl (cy 0, 8, .inl (ha_ 8))), ((kH_ 11), .inl (cy 0, 4, .inl (ha_ 9))), ((kH_ 12), .inr (6, [.ref (hd_ 2), .int (hh_ 2), .ref (kH_ 13), .ref (kH_ 14), .ref (kH_ 15), .ref (kH_ 16), .ref (kH_ 17), .int (hf_ 2)])), ((kH_ 13), .inl (cy 0, 8, .inl (ha_ 10))), ((kH_ 14), .inl (cy 0, 8, .inl (ha_ 11))), ((kH_ 15), .inl (cy 0, 8, .inl (ha_ 12))), ((kH_ 16), .inl (cy 0, 8, .inl (ha_ 13))), ((kH_ 17), .inl (cy 0, 4, .inl (ha_ 14))), ((kH_ 18), .inr (6, [.ref (hd_ 3), .int (hh_ 3), .ref (kH_ 19), .ref (kH_ 20), .ref (kH_ 21), .ref (kH_ 22), .ref (kH_ 23), .int (hf_ 3)])), ((kH_ 19), .inl (cy 0, 8, .inl (ha_ 15))), ((kH_ 20), .inl (cy 0, 8, .inl (ha_ 16))), ((kH_ 21), .inl (cy 0, 8, .inl (ha_ 17))), ((kH_ 22), .inl (cy 0, 8, .inl (ha_ 18))), ((kH_ 23), .inl (cy 0, 4, .inl (ha_ 19))), ((kH_ 24), .inr (6, [.ref (hd_ 4), .int (hh_ 4), .ref (kH_ 25), .ref (kH_ 26), .ref (kH_ 27), .ref (kH_ 28), .ref (kH_ 29), .int (hf_ 4)])), ((kH_ 25), .inl (cy 0, 8, .inl (ha_ 20))), ((kH_ 26), .inl (cy 0, 8, .inl (ha_ 21))), ((kH_ 27), .inl (cy 0, 8, .inl (ha_ 22))), ((kH_ 28), .inl (cy 0, 8, .inl (ha_ 23))), ((kH_ 29), .inl (cy 0, 4, .inl (ha_ 24))), ((kH_ 30), .inr (6, [.ref (hd_ 5), .int (hh_ 5), .ref (kH_ 31), .ref (kH_ 32), .ref (kH_ 33), .ref (kH_ 34), .ref (kH_ 35), .int (hf_ 5)])), ((kH_ 31), .inl (cy 0, 8, .inl (ha_ 25))), ((kH_ 32), .inl (cy 0, 8, .inl (ha_ 26))), ((kH_ 33), .inl (cy 0, 8, .inl (ha_ 27))), ((kH_ 34), .inl (cy 0, 8, .inl (ha_ 28))), ((kH_ 35), .inl (cy 0, 4, .inl (ha_ 29))), ((kH_ 36), .inr (6, [.ref (hd_ 6), .int (hh_ 6), .ref (kH_ 37), .ref (kH_ 38), .ref (kH_ 39), .ref (kH_ 40), .ref (kH_ 41), .int (hf_ 6)])), ((kH_ 37), .inl (cy 0, 8, .inl (ha_ 30))), ((kH_ 38), .inl (cy 0, 8, .inl (ha_ 31))), ((kH_ 39), .inl (cy 0, 8, .inl (ha_ 32))), ((kH_ 40), .inl (cy 0, 8, .inl (ha_ 33))), ((kH_ 41), .inl (cy 0, 4, .inl (ha_ 34))), ((kH_ 42), .inr (6, [.ref (hd_ 7), .int (hh_ 7), .ref (kH_ 43), .ref (kH_ 44), .ref (kH_ 45), .ref (kH_ 46), .ref (kH_ 47), .int (hf_ 7)])), ((kH_ 43), .inl (cy 0, 8, .inl (ha_ 35))), ((kH_ 44), .inl (cy 0, 8, .inl (ha_ 36))), ((kH_ 45), .inl (cy 0, 8, .inl (ha_ 37))), ((kH_ 46), .inl (cy 0, 8, .inl (ha_ 38))), ((kH_ 47), .inl (cy 0, 4, .inl (ha_ 39))), ((kH_ 48), .inr (6, [.ref (hd_ 8), .int (hh_ 8), .ref (kH_ 49), .ref (kH_ 50), .ref (kH_ 51), .ref (kH_ 52), .ref (kH_ 53), .int (hf_ 8)])), ((kH_ 49), .inl (cy 0, 8, .inl (ha_ 40))), ((kH_ 50), .inl (cy 0, 8, .inl (ha_ 41))), ((kH_ 51), .inl (cy 0, 8, .inl (ha_ 42))), ((kH_ 52), .inl (cy 0, 8, .inl (ha_ 43))), ((kH_ 53), .inl (cy 0, 4, .inl (ha_ 44))), ((kH_ 54), .inr (6, [.ref (hd_ 9), .int (hh_ 9), .ref (kH_ 55), .ref (kH_ 56), .ref (kH_ 57), .ref (kH_ 58), .ref (kH_ 59), .int (hf_ 9)])), ((kH_ 55), .inl (cy 0, 8, .inl (ha_ 45))), ((kH_ 56), .inl (cy 0, 8, .inl (ha_ 46))), ((kH_ 57), .inl (cy 0, 8, .inl (ha_ 47))), ((kH_ 58), .inl (cy 0, 8, .inl (ha_ 48))), ((kH_ 59), .inl (cy 0, 4, .inl (ha_ 49)))] ∧ rg (0) (9) first_ ∧ rg (0) (10) hmany_ ∧ hq pd hd_
def TR (cy : Nat → ClassId) (ntr_ : Nat) (v : TrT) (B : va_W) : Prop := ∃ (sort_ : Int32) (many_ : Int32) (nz_ : Nat) (fz_ : Nat → Int64), v = (sort_, many_, fz_) ∧ B = [(ntr_, .inr (8, [.int sort_, .int many_, .ref nz_])), (nz_, .inl (cy 2, 30, .inr (.inl (fz_))))] ∧ rg (0) (30) many_
def IB (cy : Nat → ClassId) (pd : Nat → Prop) (ni : Nat) (v : ScT × HiT) (B : va_W) : Prop := ∃ (kI_ : Nat → Nat) (ndI_ : Nat) (hourI_ : Int32) (fallenI_ : Int32) (cI_ : Nat → Nat → Int32) (firstI_ : Int32) (hmanyI_ : Int32) (hdI_ : Nat → Nat) (hhI_ : Nat → Int32) (hfI_ : Nat → Int32) (haI_ : Nat → Nat → Int32), (kI_ 0) = ni ∧ v = ((ndI_, hourI_, (cI_ 0), (cI_ 1), (cI_ 2), (cI_ 3), (cI_ 4)), (firstI_, hmanyI_, hdI_, hhI_, haI_)) ∧ B = [((kI_ 0), .inr (3, [.ref (kI_ 1), .ref (kI_ 7)])), ((kI_ 1), .inr (6, [.ref ndI_, .int hourI_, .ref (kI_ 2), .ref (kI_ 3), .ref (kI_ 4), .ref (kI_ 5), .ref (kI_ 6), .int fallenI_])), ((kI_ 2), .inl (cy 0, 8, .inl ((cI_ 0)))), ((kI_ 3), .inl (cy 0, 8, .inl ((cI_ 1)))), ((kI_ 4), .inl (cy 0, 8, .inl ((cI_ 2)))), ((kI_ 5), .inl (cy 0, 8, .inl ((cI_ 3)))), ((kI_ 6), .inl (cy 0, 4, .inl ((cI_ 4)))), ((kI_ 7), .inr (2, [.ref (kI_ 8), .int firstI_, .int hmanyI_])), ((kI_ 8), .inl (cy 4, 10, .inr (.inr (.inr (.inr (va_up (va_up (va_up (va_up (va_up (va_up (va_up (va_up (va_up (va_up (fun _ => none) (0 : Int32).toNatClampNeg (some (kI_ 9))) (1 : Int32).toNatClampNeg (some (kI_ 15))) (2 : Int32).toNatClampNeg (some (kI_ 21))) (3 : Int32).toNatClampNeg (some (kI_ 27))) (4 : Int32).toNatClampNeg (some (kI_ 33))) (5 : Int32).toNatClampNeg (some (kI_ 39))) (6 : Int32).toNatClampNeg (some (kI_ 45))) (7 : Int32).toNatClampNeg (some (kI_ 51))) (8 : Int32).toNatClampNeg (some (kI_ 57))) (9 : Int32).toNatClampNeg (some (kI_ 63)))))))), ((kI_ 9), .inr (6, [.ref (hdI_ 0), .int (hhI_ 0), .ref (kI_ 10), .ref (kI_ 11), .ref (kI_ 12), .ref (kI_ 13), .ref (kI_ 14), .int (hfI_ 0)])), ((kI_ 10), .inl (cy 0, 8, .inl (haI_ 0))), ((kI_ 11), .inl (cy 0, 8, .inl (haI_ 1))), ((kI_ 12), .inl (cy 0, 8, .inl (haI_ 2))), ((kI_ 13), .inl (cy 0, 8, .inl (haI_ 3))), ((kI_ 14), .inl (cy 0, 4, .inl (haI_ 4))), ((kI_ 15), .inr (6, [.ref (hdI_ 1), .int (hhI_ 1), .ref (kI_ 16), .ref (kI_ 17), .ref (kI_ 18), .ref (kI_ 19), .ref (kI_ 20), .int (hfI_ 1)])), ((kI_ 16), .inl (cy 0, 8, .inl (haI_ 5))), ((kI_ 17), .inl (cy 0, 8, .inl (haI_ 6))), ((kI_ 18), .inl (cy 0, 8, .inl (haI_ 7))), ((kI_ 19), .inl (cy 0, 8, .inl (haI_ 8))), ((kI_ 20), .inl (cy 0, 4, .inl (haI_ 9))), ((kI_ 21), .inr (6, [.ref (hdI_ 2), .int (hhI_ 2), .ref (kI_ 22), .ref (kI_ 23), .ref (kI_ 24), .ref (kI_ 25), .ref (kI_ 26), .int (hfI_ 2)])), ((kI_ 22), .inl (cy 0, 8, .inl (haI_ 10))), ((kI_ 23), .inl (cy 0, 8, .inl (haI_ 11))), ((kI_ 24), .inl (cy 0, 8, .inl (haI_ 12))), ((kI_ 25), .inl (cy 0, 8, .inl (haI_ 13))), ((kI_ 26), .inl (cy 0, 4, .inl (haI_ 14))), ((kI_ 27), .inr (6, [.ref (hdI_ 3), .int (hhI_ 3), .ref (kI_ 28), .ref (kI_ 29), .ref (kI_ 30), .ref (kI_ 31), .ref (kI_ 32), .int (hfI_ 3)])), ((kI_ 28), .inl (cy 0, 8, .inl (haI_ 15))), ((kI_ 29), .inl (cy 0, 8, .inl (haI_ 16))), ((kI_ 30), .inl (cy 0, 8, .inl (haI_ 17))), ((kI_ 31), .inl (cy 0, 8, .inl (haI_ 18))), ((kI_ 32), .inl (cy 0, 4, .inl (haI_ 19))), ((kI_ 33), .inr (6, [.ref (hdI_ 4), .int (hhI_ 4), .ref (kI_ 34), .ref (kI_ 35), .ref (kI_ 36), .ref (kI_ 37), .ref (kI_ 38), .int (hfI_ 4)])), ((kI_ 34), .inl (cy 0, 8, .inl (haI_ 20))), ((kI_ 35), .inl (cy 0, 8, .inl (haI_ 21))), ((kI_ 36), .inl (cy 0, 8, .inl (haI_ 22))), ((kI_ 37), .inl (cy 0, 8, .inl (haI_ 23))), ((kI_ 38), .inl (cy 0, 4, .inl (haI_ 24))), ((kI_ 39), .inr (6, [.ref (hdI_ 5), .int (hhI_ 5), .ref (kI_ 40), .ref (kI_ 41), .ref (kI_ 42), .ref (kI_ 43), .ref (kI_ 44), .int (hfI_ 5)])), ((kI_ 40), .inl (cy 0, 8, .inl (haI_ 25))), ((kI_ 41), .inl (cy 0, 8, .inl (haI_ 26))), ((kI_ 42), .inl (cy 0, 8, .inl (haI_ 27))), ((kI_ 43), .inl (cy 0, 8, .inl (haI_ 28))), ((kI_ 44), .inl (cy 0, 4, .inl (haI_ 29))), ((kI_ 45), .inr (6, [.ref (hdI_ 6), .int (hhI_ 6), .ref (kI_ 46), .ref (kI_ 47), .ref (kI_ 48), .ref (kI_ 49), .ref (kI_ 50), .int (hfI_ 6)])), ((kI_ 46), .inl (cy 0, 8, .inl (haI_ 30))), ((kI_ 47), .inl (cy 0, 8, .inl (haI_ 31))), ((kI_ 48), .inl (cy 0, 8, .inl (haI_ 32))), ((kI_ 49), .inl (cy 0, 8, .inl (haI_ 33))), ((kI_ 50), .inl (cy 0, 4, .inl (haI_ 34))), ((kI_ 51), .inr (6, [.ref (hdI_ 7), .int (hhI_ 7), .ref (kI_ 52), .ref (kI_ 53), .ref (kI_ 54), .ref (kI_ 55), .ref (kI_ 56), .int (hfI_ 7)])), ((kI_ 52), .inl (cy 0, 8, .inl (haI_ 35))), ((kI_ 53), .inl (cy 0, 8, .inl (haI_ 36))), ((kI_ 54), .inl (cy 0, 8, .inl (haI_ 37))), ((kI_ 55), .inl (cy 0, 8, .inl (haI_ 38))), ((kI_ 56), .inl (cy 0, 4, .inl (haI_ 39))), ((kI_ 57), .inr (6, [.ref (hdI_ 8), .int (hhI_ 8), .ref (kI_ 58), .ref (kI_ 59), .ref (kI_ 60), .ref (kI_ 61), .ref (kI_ 62), .int (hfI_ 8)])), ((kI_ 58), .inl (cy 0, 8, .inl (haI_ 40))), ((kI_ 59), .inl (cy 0, 8, .inl (haI_ 41))), ((kI_ 60), .inl (cy 0, 8, .inl (haI_ 42))), ((kI_ 61), .inl (cy 0, 8, .inl (haI_ 43))), ((kI_ 62), .inl (cy 0, 4, .inl (haI_ 44))), ((kI_ 63), .inr (6, [.ref (hdI_ 9), .int (hhI_ 9), .ref (kI_ 64), .ref (kI_ 65), .ref (kI_ 66), .ref (kI_ 67), .ref (kI_ 68), .int (hfI_ 9)])), ((kI_ 64), .inl (cy 0, 8, .inl (haI_ 45))), ((kI_ 65), .inl (cy 0, 8, .inl (haI_ 46))), ((kI_ 66), .inl (cy 0, 8, .inl (haI_ 47))), ((kI_ 67), .inl (cy 0, 8, .inl (haI_ 48))), ((kI_ 68), .inl (cy 0, 4, .inl (haI_ 49)))] ∧ rg (0) (9) firstI_ ∧ rg (0) (10) hmanyI_ ∧ pd ndI_ ∧ hq pd hdI_
def DB (cy : Nat → ClassId) (nd_ : Nat) (v : DiT) (B : va_W) : Prop := ∃ (lines_ : Int32) (columns_ : Int32) (levels_ : Int32) (things_ : Int32) (walkers_ : Int32) (nw_ : Nat) (nr_ : Nat) (nq_ : Nat) (fw_ : Nat → Int32) (fr_ : Nat → Int32) (fq_ : Nat → Int32) (oH oF : Option (Nat × Nat × Nat × Nat × Nat × (Nat → Int32) × (Nat → Int32) × (Nat → Int32))), v = (lines_, columns_, levels_, things_, walkers_, fw_, fr_, fq_, lwD oH, lwD oF) ∧ B.Perm (List.flatten [[(nd_, .inr (0, [.int lines_, .int columns_, .int levels_, .int things_, .int walkers_, .ref nw_, .ref nr_, .ref nq_, lawV oH, lawV oF]))], [(nw_, .inl (cy 0, 8, .inl (fw_)))], [(nr_, .inl (cy 0, 32, .inl (fr_)))], [(nq_, .inl (cy 0, 4, .inl (fq_)))], lawW cy oH, lawW cy oF]) ∧ lawO oH ∧ lawO oF ∧ rg (1) (6) columns_ ∧ rg (1) (9) levels_ ∧ rg (0) (8) things_ ∧ rg (0) (4) walkers_ ∧ ag (0) (8) 4 fq_
theorem HI_mono {cy : Nat → ClassId} {pd pe : Nat → Prop} {n : Nat} {v : HiT} {B : va_W} (h : HI cy pd n v B) (hp : ∀ k, pd k → pe k) : HI cy pe n v B := by
  obtain ⟨nhx_, first_, hmany_, kH_, hd_, hh_, hf_, ha_, hv, hB, h1, h2, h3⟩ := h
  exact ⟨nhx_, first_, hmany_, kH_, hd_, hh_, hf_, ha_, hv, hB, h1, h2, fun i => hp _ (h3 i)⟩
theorem IB_mono {cy : Nat → ClassId} {pd pe : Nat → Prop} {n : Nat} {v : ScT × HiT} {B : va_W} (h : IB cy pd n v B) (hp : ∀ k, pd k → pe k) : IB cy pe n v B := by
  obtain ⟨kI_, ndI_, hourI_, fallenI_, cI_, firstI_, hmanyI_, hdI_, hhI_, hfI_, haI_, hn, hv, hB, h1, h2, h3, h4⟩ := h
  exact ⟨kI_, ndI_, hourI_, fallenI_, cI_, firstI_, hmanyI_, hdI_, hhI_, hfI_, haI_, hn, hv, hB, h1, h2, hp _ h3, fun i => hp _ (h4 i)⟩
theorem pm4 (tr : Nat → va_W) (c : va_W) {i : Nat} (hi : i < 4) : ∃ R : va_W, ∀ u : Nat → va_W, (∀ j, j ≠ i → u j = tr j) → (List.flatten [c, u 0, u 1, u 2, u 3]).Perm (List.flatten [c, u i, R]) := by
  match i, hi with
  | 0, _ => exact ⟨List.flatten [tr 1, tr 2, tr 3], fun u h => by rw [h 1 (by decide), h 2 (by decide), h 3 (by decide)]; exact List.Perm.of_eq (by simp)⟩
  | 1, _ => exact ⟨List.flatten [tr 0, tr 2, tr 3], fun u h => by rw [h 0 (by decide), h 2 (by decide), h 3 (by decide)]; exact (sg_pm (M := [c, u 1, tr 0, tr 2, tr 3]) [0, 2, 1, 3, 4] 5 rfl (by decide +kernel) rfl).trans (List.Perm.of_eq (by simp))⟩
  | 2, _ => exact ⟨List.flatten [tr 0, tr 1, tr 3], fun u h => by rw [h 0 (by decide), h 1 (by decide), h 3 (by decide)]; exact (sg_pm (M := [c, u 2, tr 0, tr 1, tr 3]) [0, 3, 1, 2, 4] 5 rfl (by decide +kernel) rfl).trans (List.Perm.of_eq (by simp))⟩
  | 3, _ => exact ⟨List.flatten [tr 0, tr 1, tr 2], fun u h => by rw [h 0 (by decide), h 1 (by decide), h 2 (by decide)]; exact (sg_pm (M := [c, u 3, tr 0, tr 1, tr 2]) [0, 4, 1, 2, 3] 5 rfl (by decide +kernel) rfl).trans (List.Perm.of_eq (by simp))⟩
theorem pm3 (tr : Nat → va_W) {i : Nat} (hi : i < 3) : ∃ R : va_W, ∀ (c : va_W) (u : Nat → va_W), (∀ j, j ≠ i → u j = tr j) → (List.flatten [c, u 0, u 1, u 2]).Perm (List.flatten [c, u i, R]) := by
  match i, hi with
  | 0, _ => exact ⟨List.flatten [tr 1, tr 2], fun c u h => by rw [h 1 (by decide), h 2 (by decide)]; exact List.Perm.of_eq (by simp)⟩
  | 1, _ => exact ⟨List.flatten [tr 0, tr 2], fun c u h => by rw [h 0 (by decide), h 2 (by decide)]; exact (sg_pm (M := [c, u 1, tr 0, tr 2]) [0, 2, 1, 3] 4 rfl (by decide +kernel) rfl).trans (List.Perm.of_eq (by simp))⟩
  | 2, _ => exact ⟨List.flatten [tr 0, tr 1], fun c u h => by rw [h 0 (by decide), h 1 (by decide)]; exact (sg_pm (M := [c, u 2, tr 0, tr 1]) [0, 3, 1, 2] 4 rfl (by decide +kernel) rfl).trans (List.Perm.of_eq (by simp))⟩
/-- trays: the row and four of them -/
def TY (cy : Nat → ClassId) (nty : Nat) (tv : Nat → TrT) (B : va_W) : Prop := ∃ (g : Nat → Option Nat) (tr : Nat → va_W), (∀ i : Nat, i < 4 → ∃ a, g i = some a ∧ TR cy a (tv i) (tr i)) ∧ B.Perm (List.flatten [[(nty, .inl (cy 5, 4, .inr (.inr (.inr (.inr g)))))], tr 0, tr 1, tr 2, tr 3])
theorem TY_get {cy : Nat → ClassId} {nty : Nat} {tv : Nat → TrT} {B : va_W} (h : TY cy nty tv B) {i : Nat} (hi : i < 4) : ∃ (g : Nat → Option Nat) (a : Nat) (Bi R : va_W), g i = some a ∧ TR cy a (tv i) Bi ∧ B.Perm (List.flatten [[(nty, .inl (cy 5, 4, .inr (.inr (.inr (.inr g)))))], Bi, R]) ∧ (∀ (v : TrT) (Bj B' : va_W), TR cy a v Bj → B'.Perm (List.flatten [[(nty, .inl (cy 5, 4, .inr (.inr (.inr (.inr g)))))], Bj, R]) → TY cy nty (va_up tv i v) B') ∧ ∀ (Bj B' : va_W), TR cy a (tv i) Bj → B'.Perm (List.flatten [[(nty, .inl (cy 5, 4, .inr (.inr (.inr (.inr g)))))], Bj, R]) → TY cy nty tv B' := by
  obtain ⟨g, tr, h1, h2⟩ := h
  obtain ⟨a, ha, hb⟩ := h1 i hi
  obtain ⟨R, hR⟩ := pm4 tr [(nty, .inl (cy 5, 4, .inr (.inr (.inr (.inr g)))))] hi
  have key : ∀ (v : TrT) (Bj B' : va_W), TR cy a v Bj → B'.Perm (List.flatten [[(nty, .inl (cy 5, 4, .inr (.inr (.inr (.inr g)))))], Bj, R]) → TY cy nty (va_up tv i v) B' := by
    intro v Bj B' hj hB
    have hu := hR (va_up tr i Bj) (fun j hj => va_up_ne _ _ hj)
    rw [va_up_self] at hu
    refine ⟨g, va_up tr i Bj, fun j hj4 => ?_, hB.trans hu.symm⟩
    by_cases hji : j = i
    · subst hji
      exact ⟨a, ha, by rw [va_up_self, va_up_self]; exact hj⟩
    · rw [va_up_ne _ _ hji, va_up_ne _ _ hji]
      exact h1 j hj4
  refine ⟨g, a, tr i, R, ha, hb, h2.trans (hR tr (fun _ _ => rfl)), key, fun Bj B' hj hB => ?_⟩
  have h3 := key (tv i) Bj B' hj hB
  rw [up_id] at h3
  exact h3
/-- images: the row and as many as there are -/
def MG (cy : Nat → ClassId) (pd : Nat → Prop) (nim : Nat) (iv : Nat → Option (ScT × HiT)) (B : va_W) : Prop := ∃ (g : Nat → Option Nat) (im : Nat → va_W), (∀ i : Nat, i < 3 → (iv i = none ∧ g i = none ∧ im i = []) ∨ ∃ a v, iv i = some v ∧ g i = some a ∧ IB cy pd a v (im i)) ∧ B.Perm (List.flatten [[(nim, .inl (cy 6, 3, .inr (.inr (.inr (.inr g)))))], im 0, im 1, im 2])
theorem MG_mono {cy : Nat → ClassId} {pd pe : Nat → Prop} {n : Nat} {iv : Nat → Option (ScT × HiT)} {B : va_W} (h : MG cy pd n iv B) (hp : ∀ k, pd k → pe k) : MG cy pe n iv B := by
  obtain ⟨g, im, h1, h2⟩ := h
  refine ⟨g, im, fun i hi => ?_, h2⟩
  rcases h1 i hi with h | ⟨a, v, hv, ha, hb⟩
  · exact Or.inl h
  · exact Or.inr ⟨a, v, hv, ha, IB_mono hb hp⟩
theorem MG_get {cy : Nat → ClassId} {pd : Nat → Prop} {nim : Nat} {iv : Nat → Option (ScT × HiT)} {B : va_W} (h : MG cy pd nim iv B) {i : Nat} (hi : i < 3) : ∃ (g : Nat → Option Nat) (Bi R : va_W), ((iv i = none ∧ g i = none ∧ Bi = []) ∨ ∃ a v, iv i = some v ∧ g i = some a ∧ IB cy pd a v Bi) ∧ B.Perm (List.flatten [[(nim, .inl (cy 6, 3, .inr (.inr (.inr (.inr g)))))], Bi, R]) ∧ (∀ (a : Nat) (v : ScT × HiT) (Bj B' : va_W), IB cy pd a v Bj → B'.Perm (List.flatten [[(nim, .inl (cy 6, 3, .inr (.inr (.inr (.inr (va_up g i (some a)))))))], Bj, R]) → MG cy pd nim (va_up iv i (some v)) B') ∧ ∀ (a : Nat) (v : ScT × HiT) (Bj B' : va_W), g i = some a → IB cy pd a v Bj → B'.Perm (List.flatten [[(nim, .inl (cy 6, 3, .inr (.inr (.inr (.inr g)))))], Bj, R]) → MG cy pd nim (va_up iv i (some v)) B' := by
  obtain ⟨g, im, h1, h2⟩ := h
  obtain ⟨R, hR⟩ := pm3 im hi
  have key : ∀ (a : Nat) (v : ScT × HiT) (Bj B' : va_W), IB cy pd a v Bj → B'.Perm (List.flatten [[(nim, .inl (cy 6, 3, .inr (.inr (.inr (.inr (va_up g i (some a)))))))], Bj, R]) → MG cy pd nim (va_up iv i (some v)) B' := by
    intro a v Bj B' hj hB
    have hu := hR [(nim, .inl (cy 6, 3, .inr (.inr (.inr (.inr (va_up g i (some a)))))))] (va_up im i Bj) (fun j hj => va_up_ne _ _ hj)
    rw [va_up_self] at hu
    refine ⟨va_up g i (some a), va_up im i Bj, fun j hj3 => ?_, hB.trans hu.symm⟩
    by_cases hji : j = i
    · subst hji
      exact Or.inr ⟨a, v, va_up_self _ _ _, va_up_self _ _ _, by rw [va_up_self]; exact hj⟩
    · rw [va_up_ne _ _ hji, va_up_ne _ _ hji, va_up_ne _ _ hji]
      exact h1 j hj3
  refine ⟨g, im i, R, h1 i hi, h2.trans (hR _ im (fun _ _ => rfl)), key, fun a v Bj B' ha hj hB => key a v Bj B' hj ?_⟩
  have : va_up g i (some a) = g := by
    rw [← ha, up_id]
  rw [this]
  exact hB
/-- the districts that something may point to -/
def PL (cy : Nat → ClassId) (pd : Nat → Prop) (dd : Nat → DiT) (B : va_W) : Prop := ∃ pool : List (Nat × va_W), (∀ n, pd n → ∃ q ∈ pool, q.1 = n) ∧ (∀ q ∈ pool, DB cy q.1 (dd q.1) q.2) ∧ B.Perm (pool.map Prod.snd).flatten
theorem PL_get {cy : Nat → ClassId} {pd : Nat → Prop} {dd : Nat → DiT} {B : va_W} {n : Nat} (h : PL cy pd dd B) (hn : pd n) : ∃ Bd R : va_W, DB cy n (dd n) Bd ∧ B.Perm (List.flatten [Bd, R]) ∧ ∀ Bj B' : va_W, DB cy n (dd n) Bj → B'.Perm (List.flatten [Bj, R]) → PL cy pd dd B' := by
  obtain ⟨pool, h1, h2, h3⟩ := h
  obtain ⟨q, hq, rfl⟩ := h1 n hn
  obtain ⟨p1, p2, rfl⟩ := List.append_of_mem hq
  refine ⟨q.2, (p1.map Prod.snd).flatten ++ (p2.map Prod.snd).flatten, h2 q hq, h3.trans ?_, fun Bj B' hj hB => ⟨p1 ++ (q.1, Bj) :: p2, fun m hm => ?_, fun z hz => ?_, hB.trans ?_⟩⟩
  · simp only [List.map_append, List.map_cons, List.flatten_append, List.flatten_cons, List.flatten_nil, List.append_nil]
    rw [← List.append_assoc, ← List.append_assoc]
    exact List.Perm.append_right _ List.perm_append_comm
  · obtain ⟨z, hz, rfl⟩ := h1 m hm
    rcases List.mem_append.mp hz with hz | hz
    · exact ⟨z, List.mem_append_left _ hz, rfl⟩
    · rcases List.mem_cons.mp hz with rfl | hz
      · exact ⟨_, List.mem_append_right _ List.mem_cons_self, rfl⟩
      · exact ⟨z, List.mem_append_right _ (List.mem_cons_of_mem _ hz), rfl⟩
  · rcases List.mem_append.mp hz with hz | hz
    · exact h2 z (List.mem_append_left _ hz)
    · rcases List.mem_cons.mp hz with rfl | hz
      · exact hj
      · exact h2 z (List.mem_append_right _ (List.mem_cons_of_mem _ hz))
  · simp only [List.map_append, List.map_cons, List.flatten_append, List.flatten_cons, List.flatten_nil, List.append_nil]
    rw [← List.append_assoc, ← List.append_assoc]
    exact List.Perm.append_right _ List.perm_append_comm
theorem DB_at {cy : Nat → ClassId} {n : Nat} {D : DiT} {B : va_W} (h : DB cy n D B) : n ∈ B.map Prod.fst := by
  obtain ⟨lines_, columns_, levels_, things_, walkers_, nw_, nr_, nq_, fw_, fr_, fq_, oH, oF, hv, hB, h1⟩ := h
  exact (hB.map Prod.fst).mem_iff.mpr (by simp)
theorem PL_ne {cy : Nat → ClassId} {pd : Nat → Prop} {dd : Nat → DiT} {B Bd B' : va_W} {n : Nat} {D : DiT} (h : PL cy pd dd B) (hd : DB cy n D Bd) (hB : B'.Perm (List.flatten [Bd, B])) (hn : (B'.map Prod.fst).Nodup) : ∀ k, pd k → k ≠ n := by
  obtain ⟨pool, h1, h2, h3⟩ := h
  have hnd : ((Bd ++ B).map Prod.fst).Nodup := by
    have h4 : (B'.map Prod.fst).Perm ((Bd ++ B).map Prod.fst) := (hB.trans (List.Perm.of_eq (by simp))).map _
    exact h4.nodup_iff.mp hn
  rw [List.map_append, List.nodup_append] at hnd
  intro k hk he
  obtain ⟨z, hz, rfl⟩ := h1 k hk
  have h7 : z.1 ∈ B.map Prod.fst := by
    refine (h3.map Prod.fst).mem_iff.mpr ?_
    obtain ⟨w, hw, he2⟩ := List.mem_map.mp (DB_at (h2 z hz))
    exact List.mem_map.mpr ⟨w, List.mem_flatten.mpr ⟨z.2, List.mem_map.mpr ⟨z, hz, rfl⟩, hw⟩, he2⟩
  exact hnd.2.2 _ (DB_at hd) _ h7 he.symm
theorem MG_pd {cy : Nat → ClassId} {pd : Nat → Prop} {nim : Nat} {iv : Nat → Option (ScT × HiT)} {B : va_W} (h : MG cy pd nim iv B) {i : Nat} {v : ScT × HiT} (hi : i < 3) (hv : iv i = some v) : pd v.1.1 ∧ ∀ j, pd (v.2.2.2.1 j) := by
  obtain ⟨g, im, h1, h2⟩ := h
  rcases h1 i hi with ⟨h3, _⟩ | ⟨a, w, h3, _, h4⟩
  · rw [hv] at h3; exact absurd h3 (by simp)
  · rw [hv] at h3
    obtain rfl := Option.some.inj h3
    obtain ⟨kI_, ndI_, hourI_, fallenI_, cI_, firstI_, hmanyI_, hdI_, hhI_, hfI_, haI_, _, rfl, _, _, _, q3, q4⟩ := h4
    exact ⟨q3, q4⟩
/-- an address that nothing of a state has -/
def fr3 (S : CSt) (y : Nat) : Prop := S.2.1.1 ≠ y ∧ (∀ j, S.2.2.1.2.2.1 j ≠ y) ∧ ∀ i v, i < 3 → S.2.2.2.1 i = some v → v.1.1 ≠ y ∧ ∀ j, v.2.2.2.1 j ≠ y
theorem PL_add {cy : Nat → ClassId} {pd : Nat → Prop} {dd : Nat → DiT} {B Bd B' : va_W} {n : Nat} {D : DiT} (h : PL cy pd dd B) (hd : DB cy n D Bd) (hB : B'.Perm (List.flatten [Bd, B])) (hn : (B'.map Prod.fst).Nodup) : PL cy (fun k => k = n ∨ pd k) (va_up dd n D) B' := by
  obtain ⟨pool, h1, h2, h3⟩ := h
  have hnd : ((Bd ++ B).map Prod.fst).Nodup := by
    have h4 : (B'.map Prod.fst).Perm ((Bd ++ B).map Prod.fst) := (hB.trans (List.Perm.of_eq (by simp))).map _
    exact h4.nodup_iff.mp hn
  rw [List.map_append, List.nodup_append] at hnd
  refine ⟨(n, Bd) :: pool, fun m hm => ?_, fun z hz => ?_, hB.trans ?_⟩
  · rcases hm with rfl | hm
    · exact ⟨_, List.mem_cons_self, rfl⟩
    · obtain ⟨z, hz, rfl⟩ := h1 m hm
      exact ⟨z, List.mem_cons_of_mem _ hz, rfl⟩
  · rcases List.mem_cons.mp hz with rfl | hz
    · show DB cy n (va_up dd n D n) Bd
      rw [va_up_self]
      exact hd
    · have h5 : z.1 ≠ n := by
        intro he
        have h6 := DB_at (h2 z hz)
        have h7 : z.1 ∈ B.map Prod.fst := by
          refine (h3.map Prod.fst).mem_iff.mpr ?_
          obtain ⟨w, hw, he2⟩ := List.mem_map.mp h6
          exact List.mem_map.mpr ⟨w, List.mem_flatten.mpr ⟨z.2, List.mem_map.mpr ⟨z, hz, rfl⟩, hw⟩, he2⟩
        exact hnd.2.2 _ (DB_at hd) _ h7 he.symm
      rw [va_up_ne _ _ h5]
      exact h2 z hz
  · simp only [List.map_cons, List.flatten_cons, List.flatten_nil, List.append_nil]
    exact h3.append_left _
/-- the class between two calls: nx its object -/
def IC (cy : Nat → ClassId) (nx_ : Nat) (S_ : CSt) (W : va_W) : Prop := ∃ (ntp_ : Nat) (tapeLength_ : Int32) (faultKind_ : Int32) (faultPlace_ : Int32) (nrd_ : Nat) (no_ : Nat) (nhi_ : Nat) (nf_ : Nat) (ny_ : Nat) (nff_ : Nat) (nty_ : Nat) (nim_ : Nat) (drawn_ : Int32) (ftp_ : Nat → Int32) (fff_ : Nat → Int32) (nd_ : Nat) (hour_ : Int32) (ns_ : Nat) (nc_ : Nat) (nl_ : Nat) (nt_ : Nat) (nh_ : Nat) (fallen_ : Int32) (fs_ : Nat → Int32) (fc_ : Nat → Int32) (fl_ : Nat → Int32) (ft_ : Nat → Int32) (fh_ : Nat → Int32) (hv_ : HiT) (iv_ : Nat → Option (ScT × HiT)) (tv_ : Nat → TrT) (dd_ : Nat → DiT) (TB MB PB FB YB HB RB : va_W) (pd : Nat → Prop), S_ = ((tapeLength_, ftp_, faultKind_, faultPlace_), (nd_, hour_, fs_, fc_, fl_, ft_, fh_), hv_, iv_, tv_, dd_) ∧ rg (0) (900) tapeLength_ ∧ TY cy nty_ tv_ TB ∧ MG cy pd nim_ iv_ MB ∧ PL cy pd dd_ PB ∧ FC cy nf_ FB ∧ WY cy ny_ YB ∧ HI cy pd nhi_ hv_ HB ∧ RD cy nrd_ RB ∧ pd nd_ ∧ W.Perm (List.flatten [TB, MB, PB, FB, YB, HB, RB, [(nx_, .inr (10, [.ref ntp_, .int tapeLength_, .int faultKind_, .int faultPlace_, .ref nrd_, .ref no_, .ref nhi_, .ref nf_, .ref ny_, .ref nff_, .ref nty_, .ref nim_, .int drawn_]))], [(ntp_, .inl (cy 1, 900, .inl (ftp_)))], [(nff_, .inl (cy 0, 61, .inl (fff_)))], [(no_, .inr (6, [.ref nd_, .int hour_, .ref ns_, .ref nc_, .ref nl_, .ref nt_, .ref nh_, .int fallen_]))], [(ns_, .inl (cy 0, 8, .inl (fs_)))], [(nc_, .inl (cy 0, 8, .inl (fc_)))], [(nl_, .inl (cy 0, 8, .inl (fl_)))], [(nt_, .inl (cy 0, 8, .inl (ft_)))], [(nh_, .inl (cy 0, 4, .inl (fh_)))]])
theorem IC_pm {cy : Nat → ClassId} {nx : Nat} {S : CSt} {W W' : va_W} (h : IC cy nx S W) (hp : W.Perm W') : IC cy nx S W' := by
  obtain ⟨ntp_, tapeLength_, faultKind_, faultPlace_, nrd_, no_, nhi_, nf_, ny_, nff_, nty_, nim_, drawn_, ftp_, fff_, nd_, hour_, ns_, nc_, nl_, nt_, nh_, fallen_, fs_, fc_, fl_, ft_, fh_, hv_, iv_, tv_, dd_, TB, MB, PB, FB, YB, HB, RB, pd, h0, h1, h2, h3, h4, h5, h6, h7, h8, h9, h10⟩ := h
  exact ⟨ntp_, tapeLength_, faultKind_, faultPlace_, nrd_, no_, nhi_, nf_, ny_, nff_, nty_, nim_, drawn_, ftp_, fff_, nd_, hour_, ns_, nc_, nl_, nt_, nh_, fallen_, fs_, fc_, fl_, ft_, fh_, hv_, iv_, tv_, dd_, TB, MB, PB, FB, YB, HB, RB, pd, h0, h1, h2, h3, h4, h5, h6, h7, h8, h9, hp.symm.trans h10⟩
theorem IC_at {cy : Nat → ClassId} {nx : Nat} {S : CSt} {W : va_W} (h : IC cy nx S W) : ∃ (q : Nat) (fs : List Value), W[q]? = some (nx, .inr (10, fs)) := by
  obtain ⟨ntp_, tapeLength_, faultKind_, faultPlace_, nrd_, no_, nhi_, nf_, ny_, nff_, nty_, nim_, drawn_, ftp_, fff_, nd_, hour_, ns_, nc_, nl_, nt_, nh_, fallen_, fs_, fc_, fl_, ft_, fh_, hv_, iv_, tv_, dd_, TB, MB, PB, FB, YB, HB, RB, pd, h0, h1, h2, h3, h4, h5, h6, h7, h8, h9, h10⟩ := h
  have : (nx, Sum.inr (10, [.ref ntp_, .int tapeLength_, .int faultKind_, .int faultPlace_, .ref nrd_, .ref no_, .ref nhi_, .ref nf_, .ref ny_, .ref nff_, .ref nty_, .ref nim_, .int drawn_])) ∈ W := h10.mem_iff.mpr (List.mem_flatten.mpr ⟨[_], List.mem_of_getElem? (i := 7) rfl, List.mem_singleton.mpr rfl⟩)
  obtain ⟨q, hq⟩ := List.getElem?_of_mem this
  exact ⟨q, _, hq⟩
theorem IC_T {cy : Nat → ClassId} {nx : Nat} {S : CSt} {W : va_W} (h : IC cy nx S W) : 0 ≤ S.1.1.toInt ∧ S.1.1.toInt ≤ 900 := by
  obtain ⟨ntp_, tapeLength_, faultKind_, faultPlace_, nrd_, no_, nhi_, nf_, ny_, nff_, nty_, nim_, drawn_, ftp_, fff_, nd_, hour_, ns_, nc_, nl_, nt_, nh_, fallen_, fs_, fc_, fl_, ft_, fh_, hv_, iv_, tv_, dd_, TB, MB, PB, FB, YB, HB, RB, pd, h0, h1, h2, h3, h4, h5, h6, h7, h8, h9, h10⟩ := h
  rw [h0]
  exact h1
