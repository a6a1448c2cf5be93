/**
 * What one call leaves behind for a later one: all runs of three deeds, of load() and compile() with
 * each FAULT and without one, policy(), run(), watch() and poke(), as far as done and as not done.
 * What is due is reckoned here from the promises 4 to 14 and 16 alone.
 */
public final class Aftermath {
  private static final int PACKAGES = 10;
  private static final int SOURCES = 8;
  private static final int NONE = -1;
  // Deeds 0 to 9 load the package with that FAULT, 10 to 17 compile a source with FAULT 0 to 7.
  private static final int POLICY = PACKAGES + SOURCES;
  private static final int BAD_POLICY = POLICY + 1;
  private static final int RUN = POLICY + 2;
  private static final int SHORT_RUN = POLICY + 3;
  private static final int RUN_NOT_DONE = POLICY + 4;
  private static final int WATCH = POLICY + 5;
  private static final int SHORT_WATCH = POLICY + 6;
  private static final int WATCH_NOT_DONE = POLICY + 7;
  private static final int POKE = POLICY + 8;
  private static final int DEEDS = POLICY + 9;
  private static final String[] TEXTS = {"var a; var b; b = 77; return b + 1;", "return ?;", "return;", "return a;",
      "arr a[1]; return a;", "arr a[0];",
      // 13 times MARK, LI, 15 accesses of five each, LI, ST, and the end's five.
      "var b;arr a[1];" + ("b=" + "a[".repeat(15) + "0" + "]".repeat(15) + ";").repeat(13), "return - - - - - 1;"};
  private static final int[] TEXT_PLACES = {-1, 7, 6, 7, 17, 6, 0, 17};

  private final CodeHarbour x = new CodeHarbour();
  private final int[] cells = new int[256];
  private int held = NONE;
  private boolean in = false;
  private int fault = 0;
  private int place = -1;
  private int nodes = 0;
  private int result = 0;
  private int steps = 0;
  private final int[] counts = new int[4];
  private String story = "";

  /** LI, then one ST more than the number of the FAULT, and HALT; for ROOM a register that grows. */
  private static byte[] code(int fault) {
    return fault == 6 ? Wire.join(Wire.times(101, Wire.addi(0, 0, 1)), Wire.HALT)
        : Wire.join(Wire.li(0, 40 + fault), Wire.times(fault + 1, Wire.st(0, 1, fault)), Wire.HALT);
  }

  private static int instructions(int which) {
    return which == PACKAGES ? 15 : which == 6 ? 102 : which + 3;
  }

  private static byte[] packageOf(int fault) {
    byte[] code = code(fault);
    byte[] shown = Wire.join(Wire.times(fault + 1, 33, 33, 36, 36), 32);
    byte[] head = Wire.head(instructions(fault), fault == 4 || fault == 5 ? 1 : 0);
    byte[] whole = Wire.join(head, code, shown);
    return switch (fault) {
      case 1 -> Wire.upTo(whole, whole.length - 1);
      case 2 -> Wire.join(81, whole);
      case 3 -> Wire.join(head, Wire.upTo(code, code.length - 7), Wire.trap(100), shown);
      case 4 -> Wire.join(head, code, 99);
      case 5 -> Wire.join(head, code, Wire.times(41, 19));
      case 7 -> Wire.join(head, code, 99);
      case 8 -> Wire.join(head, code, 36);
      case 9 -> Wire.join(whole, 0);
      default -> whole;
    };
  }

  private static int placeOf(int fault) {
    int behindCode = 5 + 7 * instructions(fault);
    return switch (fault) {
      case 0 -> -1;
      case 1 -> packageOf(1).length;
      case 2, 6 -> 0;
      case 3 -> behindCode - 7;
      case 4, 7, 8 -> behindCode;
      case 5 -> behindCode + 40;
      default -> packageOf(9).length - 1;
    };
  }

  private void load(int which) {
    Ledger.due("load()", Ledger.load(x, packageOf(which)), which == 0 ? 0 : -1);
    in = which == 0;
    held = which == 0 || which >= 4 ? which : NONE;
    fault = which;
    place = placeOf(which);
    // AND, AND, two relations of five; at last TRUE.
    nodes = which == 0 || which >= 7 ? 12 * (which + 1) + 1 : 0;
    counts[which == 0 ? 0 : 1]++;
  }

  private void compile(int which) {
    Ledger.due("compile()", Ledger.compile(x, TEXTS[which]), which == 0 ? 0 : -1);
    in = which == 0;
    held = which == 0 ? PACKAGES : NONE;
    fault = which;
    place = TEXT_PLACES[which];
    nodes = 0;
    counts[which == 0 ? 2 : 3]++;
  }

  /** Answers how it must end. */
  private int go(int fuel) {
    int last = held == PACKAGES ? 10 : instructions(held);
    if (held < PACKAGES && held != 6 && fuel >= 2) {
      cells[held] = 40 + held;
    } else if (held == PACKAGES && fuel >= 4) {
      cells[1] = 77;
    }
    steps = Math.min(fuel, last);
    result = fuel < last ? 0 : held == PACKAGES ? 78 : held == 6 ? 101 : 40 + held;
    return fuel < last ? 3 : 1;
  }

  private void tryToGo(boolean watched, int fuel) {
    boolean done = (watched ? held != NONE : in) && fuel <= 20000;
    int ends = done ? go(fuel) : -1;
    Ledger.due(story, watched ? x.watch(fuel) : x.run(fuel), ends);
  }

  private void perform(int deed) {
    story += " " + deed;
    if (deed < PACKAGES) {
      load(deed);
    } else if (deed < POLICY) {
      compile(deed - PACKAGES);
    } else if (deed == POLICY) {
      Ledger.due(story, x.policy(0, 256, 0, 256), 0);
      held = NONE;
      in = false;
    } else if (deed == BAD_POLICY) {
      Ledger.due(story, x.policy(0, 256, 0, 257), -1);
    } else if (deed == RUN || deed == WATCH) {
      tryToGo(deed == WATCH, 200);
    } else if (deed == SHORT_RUN || deed == SHORT_WATCH) {
      tryToGo(deed == SHORT_WATCH, 2);
    } else if (deed == RUN_NOT_DONE || deed == WATCH_NOT_DONE) {
      tryToGo(deed == WATCH_NOT_DONE, 20001);
    } else {
      Ledger.due(story, x.poke(deed, 3), cells[deed]);
      cells[deed] = 3;
    }
  }

  private void ask() {
    int[] told = {held == NONE ? 0 : instructions(held), nodes, held == NONE ? 0 : 1, in ? 1 : 0, counts[0],
        counts[1], counts[2], counts[3]};
    long digest = 7;
    for (int cell : cells) {
      digest = digest * 31 + cell;
    }
    digest = (digest * 31 + result) * 31 + steps;
    for (int i = 0; i < told.length; i++) {
      Ledger.due(story + ": told(" + i + ")", x.told(i), told[i]);
      digest = digest * 31 + told[i];
    }
    Ledger.due(story + ": fault(0)", x.fault(0), fault);
    Ledger.due(story + ": fault(1)", x.fault(1), place);
    Ledger.due(story + ": result()", x.result(), result);
    Ledger.due(story + ": steps()", x.steps(), steps);
    Ledger.due(story + ": strays()", x.strays(), 0);
    Ledger.due(story + ": digest()", x.digest(), digest);
    Ledger.due(story + ": the tape is empty", x.end(1), -1);
  }

  /** What is in or held at last is still what it was. */
  private void goAtLast() {
    tryToGo(false, 150);
    ask();
    tryToGo(true, 150);
    ask();
  }

  public static void main(String[] args) {
    Ledger.sentence("Promises 4 to 16", "what one call leaves behind for a later one");
    for (int first = 0; first < DEEDS; first++) {
      for (int second = 0; second < DEEDS; second++) {
        for (int third = 0; third < DEEDS; third++) {
          Aftermath run = new Aftermath();
          run.perform(first);
          run.ask();
          run.perform(second);
          run.ask();
          run.perform(third);
          run.ask();
          run.goAtLast();
        }
      }
    }
    Ledger.close();
  }
}
