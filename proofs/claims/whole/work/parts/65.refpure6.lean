/-! shrink and turn behind the switch, over any rows A -/
def zqHA (nn l : Nat) (A : Nat → Int → Int) : Nat → Int → Int := zqTk nn l 1 11 (zqTk nn l 0 10 A)
def zqShA (nn c l : Nat) (A : Nat → Int → Int) : Nat → Int → Int := zqP2 nn c 10 11 (zq2 nn nn 10 11 (zqHf (zqHA nn l A)) (zqHg (zqHA nn l A)) (zqHA nn l A))
def zqT2A (nn l : Nat) (g : Int) (A : Nat → Int → Int) : Nat → Int → Int := zqTu nn 11 10 g (zqTk nn l 0 11 A)
def zqTnA (nn c l : Nat) (g : Int) (A : Nat → Int → Int) : Nat → Int → Int := zqP2 nn c 10 14 (zqAd nn 10 13 (zqT2A nn l g A))
