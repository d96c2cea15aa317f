def gX0_record (S : HS3) (P : PS) : HS3 := (if S.1 < (nI 4) then ((S.1 + 1), S.2.1, va_up S.2.2 S.1.toNatClampNeg (gX4_copyFrom (S.2.2 S.1.toNatClampNeg) P)) else ((3 + 1), rotF S.2.1, va_up (rotF S.2.2) 3 (gX4_copyFrom ((rotF S.2.2) 3) P)))
def gX0_size (S : HS3) (P : PS) : Int32 := S.1
