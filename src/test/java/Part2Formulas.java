/** Part 2 of the document, TERMS AND FORMULAS, sentence by sentence. */
public final class Part2Formulas {
  private static final int LEAST = Wire.LEAST;
  private static final int MOST = Wire.MOST;

  private static byte[] num(int v) {
    return Wire.num(v);
  }

  /** A IF-THEN B is shown by its hypothesis, if and only if B is A. */
  private static void compares(String what, boolean same, byte[] a, byte[] b) {
    byte[] w = Wire.all(2, Wire.then(a, b));
    if (same) {
      Ledger.shows(what, w, 35, 35, 34, 64, 0);
    } else {
      Ledger.fails(what, 8, 3, w, 35, 35, 34, 64, 0);
    }
  }

  /** Formulas of all kinds within two binders, no two of which are the same. */
  private static final byte[][] FORMULAS = {
    Wire.TRUE, Wire.and(Wire.TRUE, Wire.TRUE), Wire.then(Wire.TRUE, Wire.TRUE), Wire.all(Wire.TRUE),
        Wire.all(2, Wire.TRUE), Wire.less(Wire.var(0), Wire.var(1)), Wire.less(Wire.var(1), Wire.var(0)),
        Wire.atMost(Wire.var(0), Wire.var(1)), Wire.equal(Wire.var(0), Wire.var(1)), Wire.unequal(Wire.var(0),
        Wire.var(1)), Wire.fits(Wire.var(0), Wire.var(1)), Wire.equal(Wire.var(0), Wire.var(0)),
        Wire.equal(num(2), num(2)), Wire.equal(num(2), Wire.plus(num(1), num(1))),
        Wire.equal(Wire.plus(num(1), num(1)), num(2)), Wire.equal(num(2), num(3)), Wire.equal(num(2),
        num(-2)), Wire.equal(num(0), num(LEAST)), Wire.equal(num(0), num(MOST)), Wire.equal(Wire.var(0),
        Wire.plus(Wire.var(0), Wire.var(1))), Wire.equal(Wire.var(0), Wire.plus(Wire.var(1), Wire.var(0))),
        Wire.equal(Wire.var(0), Wire.minus(Wire.var(0), Wire.var(1))), Wire.equal(Wire.var(0),
        Wire.product(Wire.var(0), Wire.var(1))), Wire.equal(Wire.var(0), Wire.plus(Wire.var(0), num(0))),
        Wire.equal(Wire.var(0), num(0)), Wire.equal(Wire.var(0), num(1)), Wire.and(Wire.TRUE,
        Wire.equal(num(2), num(2))), Wire.and(Wire.equal(num(2), num(2)), Wire.TRUE), Wire.then(Wire.TRUE,
        Wire.equal(num(2), num(2))), Wire.all(Wire.less(Wire.var(0), Wire.var(1))),
        Wire.all(Wire.less(Wire.var(1), Wire.var(0))), Wire.all(Wire.less(Wire.var(0), Wire.var(2))),
        Wire.all(Wire.less(Wire.var(1), Wire.var(2))), Wire.all(2, Wire.less(Wire.var(0), Wire.var(1))),
        Wire.all(2, Wire.less(Wire.var(1), Wire.var(0))), Wire.all(2, Wire.less(Wire.var(0), Wire.var(0))),
        Wire.all(2, Wire.less(Wire.var(1), Wire.var(1))), Wire.all(2, Wire.less(Wire.var(2), Wire.var(3))),
        Wire.all(Wire.then(Wire.equal(Wire.var(0), num(1)), Wire.TRUE)),
        Wire.then(Wire.all(Wire.equal(Wire.var(0), num(1))), Wire.TRUE), };

  private static void sameness() {
    Ledger.sentence("Part 2",
        "They are the same if they are put together alike, of the same numbers and variables, binders for"
        + " binders; nothing is reckoned");
    for (int i = 0; i < FORMULAS.length; i++) {
      for (int j = 0; j < FORMULAS.length; j++) {
        compares("formula " + i + " and " + j, i == j, FORMULAS[i], FORMULAS[j]);
      }
    }
    // All bytes of a number count.
    for (int shift = 0; shift < 32; shift += 8) {
      compares("byte " + shift, false, Wire.equal(num(0), num(1 << shift)), Wire.equal(num(0), num(0)));
    }
    Ledger.sentence("Part 2", "nothing is reckoned");
    Ledger.fails("2 is not 1 + 1 for SAME", 8, 0, Wire.equal(num(2), Wire.plus(num(1), num(1))), 37);
    Ledger.shows("but for RECKON", Wire.equal(num(2), Wire.plus(num(1), num(1))), 36);
    Ledger.fails("0 is not 0 * 5", 8, 0, Wire.atMost(num(0), Wire.product(num(0), num(5))), 55);
  }

  private static void moved() {
    Ledger.sentence("Part 2",
        "the same variables, binders for binders: further in they are called otherwise");
    // ALL x (x = 0 IF-THEN ALL y (y = 0 IF-THEN ..)): the hypothesis of x, further in.
    byte[] ofX = Wire.equal(Wire.var(0), num(0));
    byte[] xFurtherIn = Wire.equal(Wire.var(1), num(0));
    byte[] w = Wire.all(Wire.then(ofX, Wire.all(Wire.then(ofX, xFurtherIn))));
    Ledger.shows("the outer hypothesis", w, 35, 34, 35, 34, 64, 2);
    Ledger.fails("not the inner one", 8, 4, w, 35, 34, 35, 34, 64, 0);
    byte[] v = Wire.all(Wire.then(ofX, Wire.all(Wire.then(ofX, ofX))));
    Ledger.fails("not the outer one", 8, 4, v, 35, 34, 35, 34, 64, 2);
    Ledger.shows("the inner hypothesis", v, 35, 34, 35, 34, 64, 0);
    // A hypothesis with an ALL of its own.
    byte[] above = Wire.all(Wire.less(Wire.var(1), Wire.var(0)));
    byte[] aboveFurtherIn = Wire.all(Wire.less(Wire.var(2), Wire.var(0)));
    byte[] u = Wire.all(Wire.then(above, Wire.all(aboveFurtherIn)));
    Ledger.shows("an ALL, further in", u, 35, 34, 35, 64, 1);
    byte[] t = Wire.all(Wire.then(above, Wire.all(above)));
    Ledger.fails("another ALL", 8, 3, t, 35, 34, 35, 64, 1);
  }

  private static void manyBinders() {
    Ledger.sentence("Part 2", "binders for binders: each is another one than all that stand around it");
    int many = 30;
    byte[] open = Wire.times(many, 35);
    for (int i = 1; i <= many; i++) {
      byte[] below = Wire.all(Wire.less(Wire.var(0), Wire.var(i)));
      byte[] above = Wire.all(Wire.less(Wire.var(i), Wire.var(0)));
      byte[] itself = Wire.all(Wire.less(Wire.var(0), Wire.var(0)));
      byte[] deeper = Wire.all(2, Wire.less(Wire.var(0), Wire.var(i + 1)));
      byte[] deeperTurned = Wire.all(2, Wire.less(Wire.var(i + 1), Wire.var(0)));
      Ledger.shows("the same", Wire.all(many, Wire.then(below, below)), open, 34, 64, 0);
      Ledger.shows("the same", Wire.all(many, Wire.then(deeper, deeper)), open, 34, 64, 0);
      for (byte[][] pair : new byte[][][] {{below, above}, {below, itself}, {itself, above},
          {deeper, deeperTurned}}) {
        Ledger.fails("variable " + i, 8, many + 1, Wire.all(many, Wire.then(pair[0], pair[1])), open, 34, 64,
            0);
      }
    }
  }

  /** As above, behind many hypotheses, of which each is a binder, too; and further in. */
  private static void manyHypotheses() {
    Ledger.sentence("Part 2",
        "binders for binders: each is another one than all that stand around it, of either sort");
    byte[] below = Wire.and(Wire.TRUE, Wire.all(Wire.less(Wire.var(0), Wire.var(1))));
    byte[] above = Wire.and(Wire.TRUE, Wire.all(Wire.less(Wire.var(1), Wire.var(0))));
    for (int many = 0; many < 30; many++) {
      byte[] same = Wire.join(Wire.times(many, 18, 16), Wire.all(Wire.then(below, below)));
      byte[] other = Wire.join(Wire.times(many, 18, 16), Wire.all(Wire.then(below, above)));
      Ledger.shows("behind " + many, same, Wire.times(many, 34), 35, 34, 64, 0);
      Ledger.fails("behind " + many, 8, many + 2, other, Wire.times(many, 34), 35, 34, 64, 0);
    }
  }

  private static void fits(int x, int y, boolean fits) {
    byte[] w = Wire.fits(num(x), num(y));
    if (fits) {
      Ledger.shows(x + " FITS " + y, w, 36);
    } else {
      Ledger.fails(x + " FITS " + y, 8, 0, w, 36);
    }
  }

  private static void fitting() {
    Ledger.sentence("Part 2", "FITS: x + y, reckoned without wrapping, is an int");
    fits(0, 0, true);
    fits(MOST, 0, true);
    fits(MOST, 1, false);
    fits(1, MOST, false);
    fits(MOST - 1, 1, true);
    fits(MOST, -1, true);
    fits(MOST, MOST, false);
    fits(LEAST, 0, true);
    fits(LEAST, -1, false);
    fits(-1, LEAST, false);
    fits(LEAST + 1, -1, true);
    fits(LEAST, LEAST, false);
    fits(LEAST, MOST, true);
    fits(1073741824, 1073741824, false);
    fits(1073741824, 1073741823, true);
    fits(-1073741824, -1073741824, true);
    fits(-1073741824, -1073741825, false);
    Ledger.sentence("Terms", "All numbers are ints and wrap: terms, even those that FITS stands over");
    byte[] wrapped = Wire.plus(num(MOST), num(1));
    Ledger.shows("(MOST + 1) FITS MOST", Wire.fits(wrapped, num(MOST)), 36);
    Ledger.fails("(MOST + 1) FITS -1", 8, 0, Wire.fits(wrapped, num(-1)), 36);
    Ledger.shows("MOST FITS (MOST + 1)", Wire.fits(num(MOST), wrapped), 36);
  }

  private static void reckoned() {
    Ledger.sentence("Terms", "All numbers are ints and wrap: RECKON");
    byte[] sum = Wire.plus(num(MOST), num(1));
    Ledger.shows("MOST + 1 = LEAST", Wire.equal(sum, num(LEAST)), 36);
    Ledger.shows("MOST + 1 < MOST", Wire.less(sum, num(MOST)), 36);
    Ledger.fails("MOST <= MOST + 1", 8, 0, Wire.atMost(num(MOST), sum), 36);
    Ledger.shows("LEAST - 1 = MOST", Wire.equal(Wire.minus(num(LEAST), num(1)), num(MOST)), 36);
    Ledger.shows("0 - LEAST = LEAST", Wire.equal(Wire.minus(num(0), num(LEAST)), num(LEAST)), 36);
    Ledger.shows("65536 * 65536 = 0", Wire.equal(Wire.product(num(65536), num(65536)), num(0)), 36);
    Ledger.shows("MOST * MOST = 1", Wire.equal(Wire.product(num(MOST), num(MOST)), num(1)), 36);
    Ledger.shows("LEAST < MOST", Wire.less(num(LEAST), num(MOST)), 36);
    Ledger.fails("MOST < LEAST", 8, 0, Wire.less(num(MOST), num(LEAST)), 36);
  }

  /** A MARK with a claim of registers is fallen into behind some instructions; PART 0 is that claim. */
  private static void claimAt(String what, byte[] claim, int fault, byte[] derivation, byte[]... code) {
    int behind = 5 + 7 * (code.length + 2) + claim.length;
    byte[] opening = Wire.join(Wire.head(code.length + 2, 1), code, Wire.mark(0), Wire.HALT, claim);
    int place = fault == 0 ? -1 : behind + derivation.length - (derivation.length > 1 ? 2 : 1);
    Ledger.loads(what, fault, place, opening, derivation, Wire.PART_OF_TRUE);
  }

  private static void claims() {
    Ledger.sentence("Part 2", "CLAIMS are formulas in which registers are terms, too");
    byte[] same = {37};
    for (int i = 0; i < 8; i++) {
      byte[] claim = Wire.equal(Wire.reg(i), num(50 + i));
      byte[][] code = new byte[8][];
      for (int k = 0; k < 8; k++) {
        code[k] = Wire.li(k, 50 + k);
      }
      claimAt("register " + i, claim, 0, same, code);
      claimAt("register " + i, Wire.equal(Wire.reg(i), num(51 + i)), 8, same, code);
    }
    Ledger.sentence("Part 2", "A claim AT eight terms has these in place of registers");
    byte[] sum = Wire.plus(Wire.plus(num(0), num(4)), num(5));
    byte[][] adds = {Wire.addi(3, 3, 4), Wire.addi(3, 3, 5)};
    claimAt("a term", Wire.equal(Wire.reg(3), sum), 0, same, adds);
    claimAt("what it is reckoned to", Wire.equal(Wire.reg(3), num(9)), 8, same, adds);
    claimAt("within a term", Wire.equal(Wire.product(Wire.reg(3), Wire.reg(2)), Wire.product(sum, num(0))), 0,
        same, adds);
    // ALL (v < r1 IF-THEN v < r2): within a binder they are the same terms.
    byte[] claim = Wire.all(Wire.then(Wire.less(Wire.var(0), Wire.reg(1)), Wire.less(Wire.var(0),
        Wire.reg(2))));
    byte[] shown = {35, 34, 64, 0};
    claimAt("within ALL", claim, 0, shown, Wire.li(1, 5), Wire.li(2, 5));
    claimAt("within ALL, other terms", claim, 8, shown, Wire.li(1, 5), Wire.li(2, 6));
    // What was read is a variable: within an ALL of the claim it is called one further off.
    byte[] read = Wire.join(33, 33, 36, 36, 35, shown);
    claimAt("a variable within ALL", claim, 0, read, Wire.ld(1, 0, 3), Wire.mov(2, 1));
    claimAt("two variables within ALL", claim, 8, Wire.join(33, 33, 36, 36, 35, 33, 33, 36, 36, 35, shown),
        Wire.ld(1, 0, 3), Wire.ld(2, 0, 3));
  }

  public static void main(String[] args) {
    sameness();
    moved();
    manyBinders();
    manyHypotheses();
    fitting();
    reckoned();
    claims();
    Ledger.close();
  }
}
