import java.nio.charset.StandardCharsets;

/**
 * Asks the class, and tells every answer that is not as due together with the sentence of the
 * document that it breaks.
 */
final class Ledger {
  private static String sentence = "no sentence yet";
  private static int sentences = 0;
  private static int asked = 0;
  private static int wrong = 0;
  // An object that has seen what was asked before, as long as it may be used, answers as a new one.
  private static CodeHarbour worn = new CodeHarbour();
  private static int wornCalls = 0;

  private Ledger() {
  }

  /** What is asked from here on is what this sentence of this part or promise says. */
  static void sentence(String where, String words) {
    endSentence();
    sentence = where + ", \"" + words + "\"";
    sentences++;
  }

  /** A sentence of which nothing is asked has no test. */
  private static void endSentence() {
    if (asked == 0 && sentences > 0) {
      wrong++;
      System.out.println(sentence + ": nothing was asked");
    }
    asked = 0;
  }

  static void due(String what, long got, long want) {
    asked++;
    if (got != want) {
      wrong++;
      System.out.println(sentence + ": " + what + " answered " + got + ", due is " + want);
    }
  }

  static void close() {
    endSentence();
    System.out.println(sentences + " sentences, " + wrong + " answers are not as due");
    if (wrong != 0) {
      System.exit(1);
    }
    sentences = 0;
  }

  private static CodeHarbour worn(int bytes) {
    int calls = bytes / 20 + 8;
    if (wornCalls + calls > 512) {
      worn = new CodeHarbour();
      wornCalls = 0;
    }
    wornCalls += calls;
    return worn;
  }

  // ---- the tape

  static void bring(CodeHarbour x, byte[] bytes) {
    for (int at = 0; at < bytes.length; at += 20) {
      int[] five = new int[5];
      for (int i = 0; i < 20 && at + i < bytes.length; i++) {
        five[i / 4] |= (bytes[at + i] & 255) << 24 - i % 4 * 8;
      }
      x.feed(five[0], five[1], five[2], five[3], five[4]);
    }
    due("end() of what was brought", x.end(bytes.length), bytes.length);
  }

  static byte[] text(String words) {
    return words.getBytes(StandardCharsets.ISO_8859_1);
  }

  static int load(CodeHarbour x, Object... parts) {
    bring(x, Wire.join(parts));
    return x.load();
  }

  static int compile(CodeHarbour x, String words) {
    bring(x, text(words));
    return x.compile();
  }

  // ---- packages

  /** A package has this FAULT at this place, 0 and -1 for none; all that hangs on it is asked, too. */
  static void loads(CodeHarbour x, String what, int fault, int place, Object... parts) {
    due(what + ": load()", load(x, parts), fault == 0 ? 0 : -1);
    due(what + ": fault(0)", x.fault(0), fault);
    due(what + ": fault(1)", x.fault(1), place);
    due(what + ": held", x.told(2), fault == 0 || fault >= 4 ? 1 : 0);
    due(what + ": in", x.told(3), fault == 0 ? 1 : 0);
  }

  /** On an object that was used before, too; the new one is answered. */
  static CodeHarbour loads(String what, int fault, int place, Object... parts) {
    CodeHarbour x = new CodeHarbour();
    loads(x, what, fault, place, parts);
    loads(worn(Wire.join(parts).length), "used again, " + what, fault, place, parts);
    return x;
  }

  /** A formula is shown by this derivation. */
  static void shows(String what, byte[] formula, Object... derivation) {
    loads(what, 0, -1, Wire.showing(formula, derivation));
  }

  /** A derivation of a formula has a FAULT, so many bytes behind its beginning. */
  static void fails(String what, int fault, int behind, byte[] formula, Object... derivation) {
    loads(what, fault, Wire.showingAt(formula) + behind, Wire.showing(formula, derivation));
  }

  /** The first derivation that is wanted is none: the code is held, not in, and can be watched. */
  static CodeHarbour holds(CodeHarbour x, byte[]... instructions) {
    loads(x, "code to be watched", 7, 5 + 7 * instructions.length, Wire.code(0, instructions), 99);
    return x;
  }

  // ---- sources

  static void source(CodeHarbour x, String words, int fault, int place) {
    due(words + ": compile()", compile(x, words), fault == 0 ? 0 : -1);
    due(words + ": fault(0)", x.fault(0), fault);
    due(words + ": fault(1)", x.fault(1), place);
    due(words + ": held", x.told(2), fault == 0 ? 1 : 0);
    due(words + ": in", x.told(3), fault == 0 ? 1 : 0);
  }

  /** A source has this FAULT; it is seen where ^ stands, which is not part of it. */
  static void faulty(int fault, String marked) {
    int place = marked.indexOf('^');
    String words = marked.replace("^", "");
    source(new CodeHarbour(), words, fault, place);
    source(worn(words.length()), words, fault, place);
  }

  static CodeHarbour well(String words) {
    CodeHarbour x = new CodeHarbour();
    source(x, words, 0, -1);
    source(worn(words.length()), words, 0, -1);
    return x;
  }

  /** A source comes in, has so many instructions, and its run answers so. */
  static CodeHarbour runs(String words, int instructions, int ends, int result, int steps) {
    CodeHarbour x = well(words);
    due(words + ": told(0)", x.told(0), instructions);
    due(words + ": run()", x.run(20000), ends);
    due(words + ": result()", x.result(), result);
    due(words + ": steps()", x.steps(), steps);
    due(words + ": strays()", x.strays(), 0);
    return x;
  }
}
