import java.util.ArrayList;
import java.util.Arrays;
import java.util.List;

/** Part 4 of the document, DERIVATIONS: each rule where W is as it must be, and where it just is not. */
public final class Part4Rules {
  private static final String LETTERS = "wxyzktu";
  private static final int MANY = LETTERS.length();
  private static final byte[] OPEN = Wire.times(MANY, 35);

  private static byte[] f(String text) {
    return Notation.formula(LETTERS, text);
  }

  /** The letters are bound outermost; the premises are hypotheses, the first one the outermost. */
  private static byte[] whole(byte[] wanted, List<byte[]> premises) {
    byte[] w = wanted;
    for (int i = premises.size() - 1; i >= 0; i--) {
      w = Wire.then(premises.get(i), w);
    }
    return Wire.all(MANY, w);
  }

  private static byte[] derivation(int tag, byte[] terms, int premises) {
    byte[] d = Wire.join(OPEN, Wire.times(premises, 34), tag, terms);
    for (int i = 0; i < premises; i++) {
      d = Wire.join(d, 64, premises - 1 - i);
    }
    return d;
  }

  private static byte[] terms(int premises, String... terms) {
    byte[] all = new byte[0];
    for (String t : terms) {
      all = Wire.join(all, Notation.term(LETTERS, t, premises));
    }
    return all;
  }

  private static List<byte[]> formulas(List<String> texts) {
    List<byte[]> all = new ArrayList<>();
    for (String t : texts) {
      all.add(f(t));
    }
    return all;
  }

  /** Left side, relation, right side. */
  private static String[] parted(String relation) {
    String[] sides = relation.split(" (<|<=|=|!=|FITS) ");
    int end = relation.length() - sides[1].length() - 1;
    return new String[] {sides[0], relation.substring(sides[0].length() + 1, end), sides[1]};
  }

  /** What is near a premise, but is not it: another relation, another side, both turned round. */
  private static List<String> near(String premise) {
    String[] parts = parted(premise);
    List<String> all = new ArrayList<>();
    for (String r : List.of("<", "<=", "=", "!=", "FITS")) {
      if (!r.equals(parts[1])) {
        all.add(parts[0] + " " + r + " " + parts[2]);
      }
    }
    all.add("w " + parts[1] + " " + parts[2]);
    all.add(parts[0] + " " + parts[1] + " w");
    all.add(parts[0] + " + 0 " + parts[1] + " " + parts[2]);
    if (!parts[0].equals(parts[2])) {
      all.add(parts[2] + " " + parts[1] + " " + parts[0]);
    }
    return all;
  }

  /**
   * A rule shows W from what its derivations must show; it does not, if one of them shows but what
   * is near it (that one has fault 8 then).
   */
  private static void rule(int tag, String w, String[] terms, String... premises) {
    int many = premises.length;
    byte[] read = terms(many, terms);
    List<byte[]> given = formulas(Arrays.asList(premises));
    byte[] d = derivation(tag, read, many);
    Ledger.shows(tag + " of " + w, whole(f(w), given), d);
    for (int i = 0; i < many; i++) {
      for (String other : near(premises[i])) {
        List<byte[]> wrong = new ArrayList<>(given);
        wrong.set(i, f(other));
        Ledger.fails(tag + " of " + w + " with " + other, 8, MANY + many + 1 + read.length + 2 * i,
            whole(f(w), wrong), d);
      }
    }
    within(tag, w, terms, true, premises);
  }

  /** The derivation of a rule within other ones: so many hypotheses, of which the first are its premises. */
  private static byte[] inner(int tag, String[] terms, int premises, int hypotheses) {
    byte[] d = Wire.join(tag, terms(hypotheses, terms));
    for (int i = 0; i < premises; i++) {
      d = Wire.join(d, 64, hypotheses - 1 - i);
    }
    return d;
  }

  /** A rule whose W is of sides that come from elsewhere: one of a formula, one of a rule's term, or both. */
  private static void within(int tag, String w, String[] terms, boolean well, String... premises) {
    if (w.equals("TRUE")) {
      return;
    }
    String[] sides = parted(w);
    if (sides[1].equals("<=") || sides[1].equals("<")) {
      chained(tag, w, terms, well, true, premises);
      chained(tag, w, terms, well, false, premises);
    } else if (sides[1].equals("!=")) {
      String[] more = Arrays.copyOf(premises, premises.length + 1);
      more[premises.length] = sides[0] + " <= " + sides[2];
      chained(tag, w, terms, well, true, more);
      chained(tag, w, terms, well, false, more);
    } else if (sides[1].equals("=")) {
      put(tag, w, terms, well, premises);
    }
  }

  /** W is one side of a CHAIN (40), of 41 or 42; the other side is a hypothesis. */
  private static void chained(int tag, String w, String[] terms, boolean well, boolean first,
      String... premises) {
    String[] sides = parted(w);
    boolean apart = sides[1].equals("!=");
    boolean less = apart || sides[1].equals("<");
    int many = premises.length + 1;
    String wanted = first ? sides[0] + (less ? " < w" : " <= w") : (less ? "w < " : "w <= ") + sides[2];
    List<byte[]> given = formulas(Arrays.asList(premises));
    given.add(f(first ? sides[2] + " <= w" : "w <= " + sides[0]));
    byte[] middle = terms(many, first ? sides[2] : sides[0]);
    byte[] ahead = Wire.join(!less ? 40 : first ? 41 : 42, middle, first ? NONE : Wire.join(64, 0));
    // BELOW shows x < y from x <= y, a hypothesis, and x != y.
    byte[] below = apart ? Wire.join(51, 64, 1) : NONE;
    byte[] rule = inner(tag, terms, premises.length - (apart ? 1 : 0), many);
    byte[] d = Wire.join(OPEN, Wire.times(many, 34), ahead, below, rule, first ? Wire.join(64, 0) : NONE);
    String what = tag + " of " + w + (first ? ", its left side given" : ", its right side given");
    if (well) {
      Ledger.shows(what, whole(f(wanted), given), d);
    } else {
      Ledger.fails(what, 8, MANY + many + ahead.length + below.length, whole(f(wanted), given), d);
    }
  }

  /** W is what the first derivation of a PUT shows: both of its sides are terms of that rule. */
  private static void put(int tag, String w, String[] terms, boolean well, String... premises) {
    String[] sides = parted(w);
    int many = premises.length + 1;
    List<byte[]> given = formulas(Arrays.asList(premises));
    given.add(f(sides[0] + " < w"));
    byte[] ahead = Wire.join(38, Wire.less(Wire.var(0), Wire.var(MANY - 1 + many + 1)), terms(many, sides[0],
        sides[2]));
    byte[] d = Wire.join(OPEN, Wire.times(many, 34), ahead, inner(tag, terms, premises.length, many), 64, 0);
    if (well) {
      Ledger.shows(tag + " of " + w + " in a PUT", whole(f(sides[2] + " < w"), given), d);
    } else {
      Ledger.fails(tag + " of " + w + " in a PUT", 8, MANY + many + ahead.length, whole(f(sides[2] + " < w"),
          given), d);
    }
  }

  /** W is not as it must be: fault 8 at the rule's tag, ahead of its derivations. */
  private static void refuses(int tag, String[] terms, String... wrong) {
    byte[] read = terms(0, terms);
    for (String w : wrong) {
      Ledger.fails(tag + " of " + w, 8, MANY, Wire.all(MANY, f(w)), OPEN, tag, read, 99);
      within(tag, w, terms, false);
    }
  }

  private static String[] t(String... terms) {
    return terms;
  }

  private static final byte[] X_IS_Y = f("x = y");
  private static final byte[] Y_IS_Z = f("y = z");

  /** Fault 8 at the tag for a W that is no relation. */
  private static void refusesFormulas(int tag, byte[] read, byte[]... wrong) {
    for (byte[] w : wrong) {
      Ledger.fails(tag + " of a formula " + w[0], 8, MANY, Wire.all(MANY, w), OPEN, tag, read, 99);
    }
  }

  private static final byte[] AN_AND = Wire.and(X_IS_Y, Y_IS_Z);
  private static final byte[] AN_IF = Wire.then(X_IS_Y, Y_IS_Z);
  private static final byte[] AN_ALL = Wire.all(X_IS_Y);
  private static final byte[] NONE = {};

  private static void formulaRules() {
    Ledger.sentence("Part 4", "32 TRUE: W is TRUE");
    Ledger.shows("TRUE", Wire.TRUE, 32);
    refusesFormulas(32, NONE, AN_AND, AN_IF, AN_ALL, X_IS_Y, f("1 = 1"), Wire.and(Wire.TRUE, Wire.TRUE));
    Ledger.sentence("Part 4", "33 BOTH p q: W is A AND B; p shows A, q shows B");
    Ledger.shows("BOTH", Wire.and(f("1 = 1"), Wire.TRUE), 33, 36, 32);
    Ledger.fails("BOTH, p", 8, 1, Wire.and(f("1 = 1"), Wire.TRUE), 33, 32, 36);
    Ledger.fails("BOTH, q", 8, 2, Wire.and(f("1 = 1"), Wire.TRUE), 33, 36, 36);
    refusesFormulas(33, NONE, Wire.TRUE, AN_IF, AN_ALL, X_IS_Y);
    Ledger.sentence("Part 4", "34 IF p: W is A IF-THEN B; with hypothesis A p shows B");
    Ledger.shows("IF", Wire.all(MANY, Wire.then(X_IS_Y, X_IS_Y)), OPEN, 34, 64, 0);
    Ledger.shows("IF without it", Wire.all(MANY, Wire.then(X_IS_Y, Wire.TRUE)), OPEN, 34, 32);
    Ledger.fails("IF, another B", 8, MANY + 1, Wire.all(MANY, AN_IF), OPEN, 34, 64, 0);
    Ledger.fails("IF, p shows A", 8, MANY + 1, Wire.all(MANY, Wire.then(Wire.TRUE, X_IS_Y)), OPEN, 34, 32);
    refusesFormulas(34, NONE, Wire.TRUE, AN_AND, AN_ALL, X_IS_Y);
    Ledger.sentence("Part 4", "35 ANY p: W is ALL A; p shows A for the new variable");
    Ledger.shows("ANY", Wire.all(Wire.equal(Wire.var(0), Wire.var(0))), 35, 37);
    Ledger.fails("ANY, no number", 8, 1, Wire.all(Wire.equal(Wire.var(0), Wire.num(0))), 35, 36);
    Ledger.fails("a new one", 8, 2, Wire.all(Wire.all(Wire.equal(Wire.var(0), Wire.var(1)))), 35, 35, 37);
    refusesFormulas(35, NONE, Wire.TRUE, AN_AND, AN_IF, X_IS_Y);
  }

  private static void reckons(String w, boolean holds) {
    if (holds) {
      Ledger.shows("RECKON of " + w, f(w), 36);
    } else {
      Ledger.fails("RECKON of " + w, 8, 0, f(w), 36);
    }
  }

  /** Registers that are numbers: what stands for them is reckoned, in all of W or in a side of it. */
  private static void registersReckoned() {
    byte[][] code = {Wire.li(1, 3), Wire.li(2, 9), Wire.addi(3, 2, 4), Wire.mark(0), Wire.HALT};
    byte[] sum = Wire.plus(Wire.product(Wire.reg(1), Wire.reg(3)), Wire.minus(Wire.reg(2), Wire.reg(1)));
    byte[] claim = Wire.equal(sum, Wire.num(3 * 13 + 6));
    Ledger.loads("registers in a term", 0, -1, Wire.code(1, code), claim, 36, Wire.PART_OF_TRUE);
    byte[] wrong = Wire.equal(sum, Wire.num(3 * 13 + 7));
    Ledger.loads("another number", 8, 5 + 7 * 5 + wrong.length, Wire.code(1, code), wrong, 36,
        Wire.PART_OF_TRUE);
    byte[] order = Wire.atMost(Wire.reg(1), Wire.plus(Wire.reg(2), Wire.reg(3)));
    Ledger.loads("either side of a CHAIN", 0, -1, Wire.code(1, code), order, 40, Wire.num(5), 36, 36,
        Wire.PART_OF_TRUE);
    Ledger.loads("the left side of a CHAIN", 8, 5 + 7 * 5 + order.length + 6, Wire.code(1, code), order, 40,
        Wire.num(2), 36, 36, Wire.PART_OF_TRUE);
    Ledger.loads("the right side of a CHAIN", 8, 5 + 7 * 5 + order.length + 7, Wire.code(1, code), order, 40,
        Wire.num(23), 36, 36, Wire.PART_OF_TRUE);
  }

  private static void reckoning() {
    Ledger.sentence("Part 4", "36 RECKON: W is a relation, with no variable in it, and holds");
    String[] signs = {"<", "<=", "=", "!="};
    boolean[][] holds = {{true, false, false}, {true, true, false}, {false, true, false}, {true, false,
        true}};
    for (int s = 0; s < 4; s++) {
      for (int v = -1; v <= 1; v++) {
        reckons(v + " " + signs[s] + " 0", holds[s][v + 1]);
      }
      reckons("-2147483648 " + signs[s] + " 2147483647", holds[s][0]);
      reckons("2147483647 " + signs[s] + " -2147483648", holds[s][2]);
    }
    reckons("2 + 3 = 5", true);
    reckons("2 - 3 = -1", true);
    reckons("2 - 3 = 1", false);
    reckons("2 * 3 = 6", true);
    reckons("2 * 3 = 5", false);
    reckons("(10 - 3) - 2 = 5", true);
    reckons("10 - (3 - 2) = 9", true);
    reckons("2 * 3 - 4 * 5 + (7 - 1) = 5 * (2 - 2) - 8", true);
    reckons("1 FITS 1", true);
    refuses(36, t(), "x = x", "x <= x", "0 * x = 0 * x", "0 = x - x", "1 FITS x", "x FITS 0",
        "0 < 1 + x * 0");
    refusesFormulas(36, NONE, Wire.TRUE, AN_AND, AN_IF, AN_ALL, Wire.and(f("1 = 1"), f("1 = 1")),
        Wire.all(f("1 = 1")));
    registersReckoned();
    Ledger.sentence("Part 4", "37 SAME: W is x = x");
    rule(37, "x = x", t());
    rule(37, "x + 2 * y = x + 2 * y", t());
    rule(37, "7 = 7", t());
    refuses(37, t(), "x = y", "x <= x", "x != x", "x < x", "x FITS x", "x + y = y + x", "1 + 1 = 2",
        "x = x + 0");
    refusesFormulas(37, NONE, Wire.TRUE, AN_AND, Wire.all(f("x = x")));
    Ledger.sentence("Part 4", "55 SELF: W is x <= x");
    rule(55, "x <= x", t());
    rule(55, "x - y * 2 <= x - y * 2", t());
    refuses(55, t(), "x <= y", "x = x", "x < x", "x != x", "x FITS x", "x <= x + 0", "1 <= 2", "2 <= 1 + 1");
    refusesFormulas(55, NONE, Wire.TRUE, AN_IF, Wire.all(f("x <= x")));
  }

  /** PUT F x y p q, with hypotheses for what p and q show: its own place is MANY + 2. */
  private static void put(String what, int fault, int behind, byte[] w, byte[] formula, String x, String y,
      String p, byte[] q) {
    byte[] all = whole(w, List.of(f(p), q));
    Object d = Wire.join(OPEN, 34, 34, 38, formula, terms(2, x, y), 64, 1, 64, 0);
    int size = 1 + formula.length + terms(2, x, y).length;
    if (fault == 0) {
      Ledger.shows(what, all, d);
    } else {
      Ledger.fails(what, fault, MANY + 2 + (behind < 0 ? 0 : size + behind), all, d);
    }
  }

  private static void putting() {
    Ledger.sentence("Part 4",
        "38 PUT F x y p q: F is a formula within one more binder, a variable; W is F with y for it; p shows"
        + " x = y, q F with x for it");
    // Within PUT's own binder and two hypotheses: z is called by 3 + 1 + 2.
    byte[] below = Wire.less(Wire.var(0), Wire.var(6));
    put("as it must be", 0, 0, f("y < z"), below, "x", "y", "x = y", f("x < z"));
    put("terms", 0, 0, f("y + 1 < z"), below, "x * 2", "y + 1", "x * 2 = y + 1", f("x * 2 < z"));
    put("another W", 8, -1, f("x < z"), below, "x", "y", "x = y", f("x < z"));
    put("W turned round", 8, -1, f("z < y"), below, "x", "y", "x = y", f("x < z"));
    put("W of another relation", 8, -1, f("y <= z"), below, "x", "y", "x = y", f("x < z"));
    put("p turned round", 8, 0, f("y < z"), below, "x", "y", "y = x", f("x < z"));
    put("p of another relation", 8, 0, f("y < z"), below, "x", "y", "x <= y", f("x < z"));
    put("p of another term", 8, 0, f("y < z"), below, "x", "y", "x = z", f("x < z"));
    put("q with y for it", 8, 2, f("y < z"), below, "x", "y", "x = y", f("y < z"));
    put("q of another relation", 8, 2, f("y < z"), below, "x", "y", "x = y", f("x <= z"));
    byte[] twice = Wire.fits(Wire.var(0), Wire.plus(Wire.var(0), Wire.var(0)));
    put("wherever it stands", 0, 0, f("y FITS y + y"), twice, "x", "y", "x = y", f("x FITS x + x"));
    put("not everywhere", 8, -1, f("y FITS y + x"), twice, "x", "y", "x = y", f("x FITS x + x"));
    put("nowhere", 0, 0, f("z = z"), Wire.equal(Wire.var(6), Wire.var(6)), "x", "y", "x = y", f("z = z"));
    // Within a binder of F its variable is called by one more, and so are y and x.
    byte[] allBelow = Wire.all(Wire.less(Wire.var(1), Wire.var(0)));
    byte[] overY = Wire.all(Wire.less(Wire.var(5), Wire.var(0)));
    byte[] overX = Wire.all(Wire.less(Wire.var(6), Wire.var(0)));
    put("within ALL", 0, 0, overY, allBelow, "x", "y", "x = y", overX);
    put("within ALL, another W", 8, -1, overX, allBelow, "x", "y", "x = y", overX);
    put("within ALL, another q", 8, 2, overY, allBelow, "x", "y", "x = y", overY);
    put("of no relation", 0, 0, Wire.TRUE, Wire.TRUE, "x", "y", "x = y", Wire.TRUE);
    put("F is W with its places", 0, 0, Wire.then(f("y = z"), f("z = y")), Wire.then(Wire.equal(Wire.var(0),
        Wire.var(6)), Wire.equal(Wire.var(6), Wire.var(0))), "x", "y", "x = y", Wire.then(f("x = z"),
        f("z = x")));
  }

  private static final String[] NO_TERMS = {};

  private static void orderRules() {
    Ledger.sentence("Part 4", "39 LESS p: W is x <= y; p shows x < y");
    rule(39, "x <= y", NO_TERMS, "x < y");
    rule(39, "x + 1 <= 2 * y", NO_TERMS, "x + 1 < 2 * y");
    refuses(39, NO_TERMS, "x < y", "x = y", "x != y", "x FITS y");
    refusesFormulas(39, NONE, Wire.TRUE, AN_AND, AN_ALL);
    Ledger.sentence("Part 4", "40 CHAIN t p q: W is x <= y; p shows x <= t, q t <= y");
    rule(40, "x <= y", t("t"), "x <= t", "t <= y");
    rule(40, "x <= y", t("t + 1"), "x <= t + 1", "t + 1 <= y");
    refuses(40, t("t"), "x < y", "x = y", "x != y", "x FITS y");
    Ledger.sentence("Part 4", "41: W is x < y; p shows x < t, q t <= y");
    rule(41, "x < y", t("t"), "x < t", "t <= y");
    refuses(41, t("t"), "x <= y", "x = y", "x != y", "x FITS y");
    Ledger.sentence("Part 4", "42: W is x < y; p shows x <= t, q t < y");
    rule(42, "x < y", t("t"), "x <= t", "t < y");
    refuses(42, t("t"), "x <= y", "x = y", "x != y", "x FITS y");
    for (int tag = 40; tag <= 42; tag++) {
      refusesFormulas(tag, terms(0, "t"), Wire.TRUE, AN_AND, AN_IF, AN_ALL);
    }
    Ledger.sentence("Part 4", "43 STEP p: W is x + 1 <= y; p shows x < y");
    rule(43, "x + 1 <= y", NO_TERMS, "x < y");
    rule(43, "x + 1 + 1 <= y", NO_TERMS, "x + 1 < y");
    rule(43, "x * y + 1 <= 5", NO_TERMS, "x * y < 5");
    refuses(43, NO_TERMS, "x + 2 <= y", "x + 0 <= y", "x + k <= y", "1 + x <= y", "x - 1 <= y", "x * 1 <= y",
        "x <= y", "x + 1 < y", "x + 1 = y", "x + 1 != y", "x + 1 FITS y", "y <= x + 1", "x + (2 - 1) <= y",
        "x + (0 + 1) <= y", "x + -1 <= y");
    refusesFormulas(43, NONE, Wire.TRUE, AN_AND);
    Ledger.sentence("Part 4", "44 UP t p: W is x <= x + 1; p shows x < t");
    rule(44, "x <= x + 1", t("t"), "x < t");
    rule(44, "x - y <= x - y + 1", t("k * 3"), "x - y < k * 3");
    refuses(44, t("t"), "x <= y + 1", "x <= x + 2", "x <= x + 0", "x <= x + k", "x <= 1 + x", "x <= x - 1",
        "x <= x * 1", "x <= x", "x < x + 1", "x = x + 1", "x != x + 1", "x FITS x + 1", "x + 1 <= x",
        "x <= x + (0 + 1)", "x + 1 <= x + 2");
    refusesFormulas(44, terms(0, "t"), Wire.TRUE, AN_AND);
  }

  private static void shiftRules() {
    Ledger.sentence("Part 4",
        "45 SHIFT t p q r s: W is x + k <= y + k; p shows x <= y, q y <= t, r x FITS k, s t FITS k");
    rule(45, "x + k <= y + k", t("t"), "x <= y", "y <= t", "x FITS k", "t FITS k");
    rule(45, "x * 2 + (k - 1) <= y - 3 + (k - 1)", t("t * t"), "x * 2 <= y - 3", "y - 3 <= t * t",
        "x * 2 FITS (k - 1)", "t * t FITS (k - 1)");
    refuses(45, t("t"), "x + k <= y + t", "x + k < y + k", "x + k = y + k", "x + k != y + k",
        "x + k FITS y + k", "k + x <= k + y", "x - k <= y - k", "x * k <= y * k", "x + k <= y - k",
        "x - k <= y + k", "x + k <= y", "x <= y + k", "x + 1 <= y + (0 + 1)", "x + 1 <= y + 2",
        "x + k <= k + y", "x <= y");
    Ledger.sentence("Part 4",
        "46 SHIFT t p q r s: W is y + k < x + k; p shows t <= y, q y < x, r t FITS k, s x FITS k");
    rule(46, "y + k < x + k", t("t"), "t <= y", "y < x", "t FITS k", "x FITS k");
    rule(46, "y - 1 + k * 2 < x * x + k * 2", t("t - 5"), "t - 5 <= y - 1", "y - 1 < x * x",
        "t - 5 FITS (k * 2)", "x * x FITS (k * 2)");
    refuses(46, t("t"), "y + k < x + t", "y + k <= x + k", "y + k = x + k", "y + k != x + k",
        "y + k FITS x + k", "k + y < k + x", "y - k < x - k", "y * k < x * k", "y + k < x - k",
        "y - k < x + k", "y + k < x", "y < x + k", "y + 1 < x + (0 + 1)", "y + 1 < x + 2", "y + k < k + x",
        "y < x");
    refusesFormulas(45, terms(0, "t"), Wire.TRUE, AN_AND);
    refusesFormulas(46, terms(0, "t"), Wire.TRUE, AN_IF);
    Ledger.sentence("Part 4",
        "56 BETWEEN t u p q r s: W is y FITS k; p shows t <= y, q y <= u, r t FITS k, s u FITS k");
    rule(56, "y FITS k", t("t", "u"), "t <= y", "y <= u", "t FITS k", "u FITS k");
    rule(56, "y * 2 FITS k - x", t("t + 1", "u - 1"), "t + 1 <= y * 2", "y * 2 <= u - 1", "t + 1 FITS k - x",
        "u - 1 FITS k - x");
    // Within a SHIFT: x FITS k is of a formula, t FITS k of a term and a formula.
    List<byte[]> given = formulas(List.of("x <= y", "y <= t", "z <= x", "x <= u", "z FITS k", "u FITS k",
        "z <= t", "t <= u"));
    Ledger.shows("56 in 45", whole(f("x + k <= y + k"), given), OPEN, Wire.times(8, 34), 45, terms(8, "t"),
        64, 7, 64, 6, 56, terms(8, "z", "u"), 64, 5, 64, 4, 64, 3, 64, 2, 56, terms(8, "z", "u"), 64, 1, 64,
        0, 64, 3, 64, 2);
    refuses(56, t("t", "u"), "y < k", "y <= k", "y = k", "y != k");
    refusesFormulas(56, terms(0, "t", "u"), Wire.TRUE, AN_ALL);
  }

  private static void equalityRules() {
    Ledger.sentence("Part 4", "47: W is (x + y) + z = x + (y + z)");
    rule(47, "(x + y) + z = x + (y + z)", NO_TERMS);
    rule(47, "(1 + 2) + 3 = 1 + (2 + 3)", NO_TERMS);
    rule(47, "(x + x) + x = x + (x + x)", NO_TERMS);
    refuses(47, NO_TERMS, "x + (y + z) = (x + y) + z", "(x + y) + z = x + (z + y)",
        "(x + y) + z = y + (x + z)", "(x + y) + z = (x + y) + z", "(x + y) + z = x + (y + k)",
        "(x + y) + z = x + (k + z)", "(x + y) + z = k + (y + z)", "(x - y) + z = x - (y + z)",
        "(x - y) + z = x + (y + z)", "(x + y) - z = x + (y + z)", "(x + y) + z = x + (y - z)",
        "(x + y) + z = x * (y + z)", "(x + y) + z <= x + (y + z)", "(x + y) + z != x + (y + z)",
        "(x * y) * z = x * (y * z)", "x + y = x + y", "(x + y) + z < x + (y + z)",
        "(x + y) + z FITS x + (y + z)");
    Ledger.sentence("Part 4", "48: W is x + y = y + x");
    rule(48, "x + y = y + x", NO_TERMS);
    rule(48, "x + x = x + x", NO_TERMS);
    rule(48, "x * y + (1 - z) = (1 - z) + (x * y)", NO_TERMS);
    refuses(48, NO_TERMS, "x + y = x + y", "x + y = y + z", "x + y = z + x", "x - y = y - x", "x * y = y * x",
        "x + y = y - x", "x - y = y + x", "x + y != y + x", "x + y <= y + x", "x + y < y + x",
        "x + y FITS y + x", "x = x");
    Ledger.sentence("Part 4", "49: W is (x - y) + y = x");
    rule(49, "(x - y) + y = x", NO_TERMS);
    rule(49, "(x - x) + x = x", NO_TERMS);
    rule(49, "(x + 1 - y * 2) + (y * 2) = x + 1", NO_TERMS);
    refuses(49, NO_TERMS, "x = (x - y) + y", "(x - y) + x = x", "(x - y) + y = y", "(x + y) + y = x",
        "(x - y) - y = x", "(x - y) * y = x", "(x * y) + y = x", "(x - y) + z = x", "(x - y) + y = z",
        "y + (x - y) = x", "(x - y) + y <= x", "(x - y) + y != x", "(x - y) + y < x", "(x - y) + y FITS x",
        "(x + y) - y = x", "x = x");
    for (int tag = 47; tag <= 49; tag++) {
      refusesFormulas(tag, NONE, Wire.TRUE, AN_AND, AN_IF, AN_ALL);
    }
    Ledger.sentence("Part 4", "50 APART p: W is x != y; p shows x < y");
    rule(50, "x != y", NO_TERMS, "x < y");
    refuses(50, NO_TERMS, "x = y", "x < y", "x <= y", "x FITS y");
    refusesFormulas(50, NONE, Wire.TRUE, AN_AND);
    Ledger.sentence("Part 4", "51 BELOW p q: W is x < y; p shows x <= y, q x != y");
    rule(51, "x < y", NO_TERMS, "x <= y", "x != y");
    refuses(51, NO_TERMS, "x = y", "x != y", "x <= y", "x FITS y");
    refusesFormulas(51, NONE, Wire.TRUE, AN_AND);
    Ledger.sentence("Part 4", "54 TURN p: W is x = y, or x != y; p shows it turned round");
    rule(54, "x = y", NO_TERMS, "y = x");
    rule(54, "x != y", NO_TERMS, "y != x");
    rule(54, "x + 1 = 2 * y", NO_TERMS, "2 * y = x + 1");
    refuses(54, NO_TERMS, "x < y", "x <= y", "x FITS y");
    refusesFormulas(54, NONE, Wire.TRUE, AN_AND, AN_IF, AN_ALL);
  }

  private static void anyW() {
    Ledger.sentence("Part 4", "52 NEVER t p: p shows t < t");
    for (String w : List.of("x < y", "x = y", "1 = 2", "TRUE", "x FITS y")) {
      rule(52, w, t("t"), "t < t");
      rule(52, w, t("t + 1"), "t + 1 < t + 1");
    }
    for (byte[] w : new byte[][] {AN_AND, AN_IF, AN_ALL}) {
      Ledger.shows("NEVER of a formula", whole(w, List.of(f("t < t"))), OPEN, 34, 52, terms(1, "t"), 64, 0);
    }
    Ledger.sentence("Part 4", "53 CASES t u p q: p shows W with hypothesis t < u, q with hypothesis u <= t");
    // W follows in either case: t < u IF-THEN x = y, and u <= t IF-THEN x = y.
    byte[] first = Wire.then(f("t < u"), f("x = y"));
    byte[] second = Wire.then(f("u <= t"), f("x = y"));
    byte[] w = whole(f("x = y"), List.of(first, second));
    byte[] read = terms(2, "t", "u");
    Ledger.shows("CASES", w, OPEN, 34, 34, 53, read, 67, 64, 2, 64, 0, 67, 64, 1, 64, 0);
    int p = MANY + 3 + read.length;
    Ledger.fails("p has not the second", 8, p + 3, w, OPEN, 34, 34, 53, read, 67, 64, 1, 64, 0, 99);
    Ledger.fails("q has not the first", 8, p + 5 + 3, w, OPEN, 34, 34, 53, read, 67, 64, 2, 64, 0, 67, 64, 2,
        64, 0);
    byte[] turned = terms(2, "u", "t");
    Ledger.fails("u and t", 8, p + 3, w, OPEN, 34, 34, 53, turned, 67, 64, 2, 64, 0, 67, 64, 1, 64, 0);
    Ledger.fails("p shows another one", 8, p, w, OPEN, 34, 34, 53, read, 64, 0, 67, 64, 1, 64, 0);
    // W is x <= y, of which a CHAIN has given one side.
    List<byte[]> given = formulas(List.of("x <= y", "y <= w", "w <= x"));
    Ledger.shows("CASES of a left side", whole(f("x <= w"), given), OPEN, 34, 34, 34, 40, terms(3, "y"), 53,
        terms(3, "t", "u"), 64, 3, 64, 3, 64, 1);
    Ledger.shows("CASES of a right side", whole(f("w <= y"), given), OPEN, 34, 34, 34, 40, terms(3, "x"), 64,
        0, 53, terms(3, "t", "u"), 64, 3, 64, 3);
    Ledger.shows("CASES of a formula", Wire.all(MANY, Wire.then(AN_AND, AN_AND)), OPEN, 34, 53, terms(1, "t",
        "u"), 64, 1, 64, 1);
  }

  private static void telling() {
    Ledger.sentence("Part 4", "64 HYPOTHESIS i tells it");
    byte[] w = whole(f("x = y"), List.of(f("x = y"), f("y = z"), f("z = k")));
    Ledger.shows("the third one off", w, OPEN, 34, 34, 34, 64, 2);
    Ledger.fails("the second one off", 8, MANY + 3, w, OPEN, 34, 34, 34, 64, 1);
    Ledger.fails("the innermost", 8, MANY + 3, w, OPEN, 34, 34, 34, 64, 0);
    Ledger.sentence("Part 4", "65 LEFT p: p tells A AND B; it tells A. 66 RIGHT p: B");
    byte[] left = Wire.all(MANY, Wire.then(AN_AND, X_IS_Y));
    byte[] right = Wire.all(MANY, Wire.then(AN_AND, Y_IS_Z));
    Ledger.shows("LEFT", left, OPEN, 34, 65, 64, 0);
    Ledger.fails("LEFT is not B", 8, MANY + 1, right, OPEN, 34, 65, 64, 0);
    Ledger.shows("RIGHT", right, OPEN, 34, 66, 64, 0);
    Ledger.fails("RIGHT is not A", 8, MANY + 1, left, OPEN, 34, 66, 64, 0);
    Ledger.fails("all of it is not A", 8, MANY + 1, left, OPEN, 34, 64, 0);
    for (int tag = 65; tag <= 66; tag++) {
      for (byte[] a : new byte[][] {Wire.TRUE, AN_IF, AN_ALL, X_IS_Y}) {
        Ledger.fails(tag + " of no AND", 8, MANY + 1, Wire.all(MANY, Wire.then(a, X_IS_Y)), OPEN, 34, tag, 64,
            0);
      }
    }
    byte[] nested = Wire.and(Wire.and(X_IS_Y, f("z = z")), Wire.and(Y_IS_Z, Wire.TRUE));
    Ledger.shows("LEFT of RIGHT", Wire.all(MANY, Wire.then(nested, Y_IS_Z)), OPEN, 34, 65, 66, 64, 0);
    Ledger.shows("RIGHT of LEFT", Wire.all(MANY, Wire.then(nested, f("z = z"))), OPEN, 34, 66, 65, 64, 0);
    Ledger.sentence("Part 4", "67 THEN p q: p tells A IF-THEN B, q shows A; it tells B");
    byte[] then = whole(Y_IS_Z, List.of(AN_IF, X_IS_Y));
    Ledger.shows("THEN", then, OPEN, 34, 34, 67, 64, 1, 64, 0);
    Ledger.fails("q shows another one", 8, MANY + 5, whole(Y_IS_Z, List.of(AN_IF, f("y = x"))), OPEN, 34, 34,
        67, 64, 1, 64, 0);
    Ledger.fails("it does not tell A", 8, MANY + 2, whole(X_IS_Y, List.of(AN_IF, X_IS_Y)), OPEN, 34, 34, 67,
        64, 1, 64, 0);
    Ledger.fails("it does not tell all of it", 8, MANY + 2, whole(AN_IF, List.of(AN_IF, X_IS_Y)), OPEN, 34,
        34, 67, 64, 1, 64, 0);
    for (byte[] a : new byte[][] {Wire.TRUE, AN_AND, AN_ALL, X_IS_Y}) {
      Ledger.fails("THEN of no IF-THEN", 8, MANY + 1, Wire.all(MANY, Wire.then(a, Y_IS_Z)), OPEN, 34, 67, 64,
          0, 99);
    }
    Ledger.shows("q is shown by any rule", whole(Y_IS_Z, List.of(Wire.then(f("1 < 2"), Y_IS_Z))), OPEN, 34,
        67, 64, 0, 36);
  }

  private static void forTerms() {
    Ledger.sentence("Part 4", "68 FOR t p: p tells ALL A; it tells A with t for its variable");
    byte[] every = Wire.all(Wire.less(Wire.var(0), Wire.plus(Wire.var(0), Wire.var(6))));
    byte[] read = terms(1, "t - 2");
    Ledger.shows("FOR", whole(f("t - 2 < t - 2 + x"), List.of(every)), OPEN, 34, 68, read, 64, 0);
    Ledger.fails("another term", 8, MANY + 1, whole(f("t - 2 < t - 1 + x"), List.of(every)), OPEN, 34, 68,
        read, 64, 0);
    Ledger.fails("another letter", 8, MANY + 1, whole(f("t - 2 < t - 2 + y"), List.of(every)), OPEN, 34, 68,
        read, 64, 0);
    for (byte[] a : new byte[][] {Wire.TRUE, AN_AND, AN_IF, X_IS_Y}) {
      Ledger.fails("FOR of no ALL", 8, MANY + 1, Wire.all(MANY, Wire.then(a, Y_IS_Z)), OPEN, 34, 68, terms(1,
          "t"), 64, 0);
    }
    // ALL a ALL b (a < b): the outermost is the one that is put first.
    byte[] two = Wire.all(2, Wire.less(Wire.var(1), Wire.var(0)));
    Ledger.shows("two FORs", whole(f("x < y"), List.of(two)), OPEN, 34, 68, terms(1, "y"), 68, terms(1, "x"),
        64, 0);
    Ledger.fails("in their order", 8, MANY + 1, whole(f("x < y"), List.of(two)), OPEN, 34, 68, terms(1, "x"),
        68, terms(1, "y"), 64, 0);
    byte[] overX = Wire.all(Wire.less(Wire.var(6), Wire.var(0)));
    Ledger.shows("ALL within ALL", whole(overX, List.of(two)), OPEN, 34, 68, terms(1, "x"), 64, 0);
    // ALL v (v < x IF-THEN v = y), for a term: what is to be shown, and what is told.
    byte[] law = Wire.all(Wire.then(Wire.less(Wire.var(0), Wire.var(6)), Wire.equal(Wire.var(0),
        Wire.var(5))));
    byte[] ofTerm = whole(f("t + 1 = y"), List.of(law, f("t + 1 < x")));
    Ledger.shows("THEN of FOR", ofTerm, OPEN, 34, 34, 67, 68, terms(2, "t + 1"), 64, 1, 64, 0);
    Ledger.fails("THEN of FOR, another term", 8, MANY + 2 + 2 + terms(2, "t + 2").length + 2, ofTerm, OPEN,
        34, 34, 67, 68, terms(2, "t + 2"), 64, 1, 64, 0);
    // The term is not caught by the ALL that it comes to stand in.
    byte[] caught = Wire.all(Wire.less(Wire.var(0), Wire.var(0)));
    Ledger.fails("nothing is caught", 8, MANY + 1, whole(caught, List.of(two)), OPEN, 34, 68, terms(1, "u"),
        64, 0);
  }

  private static void binders() {
    Ledger.sentence("Part 4",
        "HYPOTHESES and variables are called by how many binders stand between, of either sort (0: the"
        + " innermost)");
    // ALL a (a = a IF-THEN ALL b (b = b IF-THEN W)): behind 35 34 35 34 a is 3 and b is 1;
    // 2 and 0 are hypotheses.
    byte[] ofOne = Wire.equal(Wire.var(0), Wire.var(0));
    for (int i = 0; i < 5; i++) {
      boolean isVariable = i == 1 || i == 3;
      byte[] w = Wire.all(Wire.then(ofOne, Wire.all(Wire.then(ofOne, Wire.equal(Wire.var(1), Wire.var(1))))));
      if (isVariable) {
        Ledger.fails("64 " + i, 7, 4, w, 35, 34, 35, 34, 64, i);
        Ledger.fails("5 " + i, 7, 7, w, 35, 34, 35, 34, 52, Wire.var(i), 99);
      } else if (i < 4) {
        Ledger.fails("5 " + i, 7, 5, w, 35, 34, 35, 34, 52, Wire.var(i), 99);
      } else {
        Ledger.fails("64 " + i, 7, 4, w, 35, 34, 35, 34, 64, i);
        Ledger.fails("5 " + i, 7, 5, w, 35, 34, 35, 34, 52, Wire.var(i), 99);
      }
    }
    byte[] outer = Wire.all(Wire.then(ofOne, Wire.all(Wire.then(ofOne, Wire.equal(Wire.var(1),
        Wire.var(1))))));
    byte[] inner = Wire.all(Wire.then(ofOne, Wire.all(Wire.then(ofOne, Wire.equal(Wire.var(0),
        Wire.var(0))))));
    Ledger.shows("the outer hypothesis", outer, 35, 34, 35, 34, 64, 2);
    Ledger.fails("the outer one is not the inner", 8, 4, inner, 35, 34, 35, 34, 64, 2);
    Ledger.shows("the inner hypothesis", inner, 35, 34, 35, 34, 64, 0);
    Ledger.sentence("Part 4", "IF binds a hypothesis, ANY a variable, CASES a hypothesis in each of its two");
    byte[] w = Wire.all(Wire.equal(Wire.var(0), Wire.var(0)));
    Ledger.fails("behind CASES the variable is 1", 7, 1 + 1 + 4 + 1, w, 35, 53, Wire.var(0), Wire.var(0), 52,
        Wire.var(0), 99);
    Ledger.fails("and 1 in its second, too", 7, 1 + 1 + 4 + 1 + 1, w, 35, 53, Wire.var(0), Wire.var(0), 37,
        52, Wire.var(0), 99);
    Ledger.shows("so it is", w, 35, 53, Wire.var(0), Wire.var(0), 52, Wire.var(1), 64, 0, 37);
    Ledger.fails("behind CASES its hypothesis is gone", 7, 1 + 1 + 1 + 4 + 2, Wire.and(w, Wire.TRUE), 33, 35,
        53, Wire.var(0), Wire.var(0), 37, 37, 64, 0);
    Ledger.fails("behind IF its hypothesis is gone", 7, 3, Wire.and(Wire.then(Wire.TRUE, Wire.TRUE),
        Wire.TRUE), 33, 34, 32, 64, 0);
    Ledger.fails("behind ANY its variable is gone", 7, 4, Wire.and(w, Wire.TRUE), 33, 35, 37, 52, Wire.var(0),
        99);
    Ledger.fails("a PART has no binder of another one", 7, 1, Wire.then(Wire.TRUE, Wire.TRUE), 34, 64, 1);
    Ledger.loads("PART 1 begins with none", 7, Wire.showingAt(w) + 2, Wire.upTo(Wire.showing(w, 35, 37, 64,
        0), Wire.showingAt(w) + 4));
  }

  public static void main(String[] args) {
    formulaRules();
    reckoning();
    putting();
    orderRules();
    shiftRules();
    equalityRules();
    anyW();
    telling();
    forTerms();
    binders();
    Ledger.close();
  }
}
